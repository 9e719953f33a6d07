theorem dX9_begin_5 : decode cX9_begin 5 = .ok (.iload_n 1, 1) := kd_r kbX9_begin ki_8 rfl
theorem dX9_begin_6 : decode cX9_begin 6 = .ok (.if_icmp .ge 26, 3) := kd_r kbX9_begin ki_418 rfl
theorem dX9_begin_9 : decode cX9_begin 9 = .ok (.iload_n 3, 1) := kd_r kbX9_begin ki_55 rfl
theorem dX9_begin_10 : decode cX9_begin 10 = .ok (.aload_n 0, 1) := kd_r kbX9_begin ki_0 rfl
theorem dX9_begin_11 : decode cX9_begin 11 = .ok (.getfield 21, 3) := kd_r kbX9_begin ki_94 rfl
theorem dX9_begin_14 : decode cX9_begin 14 = .ok (.if_icmp .ge 18, 3) := kd_r kbX9_begin ki_297 rfl
theorem dX9_begin_17 : decode cX9_begin 17 = .ok (.iload_n 2, 1) := kd_r kbX9_begin ki_11 rfl
theorem dX9_begin_18 : decode cX9_begin 18 = .ok (.aload_n 0, 1) := kd_r kbX9_begin ki_0 rfl
theorem dX9_begin_19 : decode cX9_begin 19 = .ok (.getfield 9, 3) := kd_r kbX9_begin ki_13 rfl
theorem dX9_begin_22 : decode cX9_begin 22 = .ok (.iload_n 3, 1) := kd_r kbX9_begin ki_55 rfl
theorem dX9_begin_23 : decode cX9_begin 23 = .ok (.iaload, 1) := kd_r kbX9_begin ki_14 rfl
theorem dX9_begin_24 : decode cX9_begin 24 = .ok (.iadd, 1) := kd_r kbX9_begin ki_30 rfl
theorem dX9_begin_25 : decode cX9_begin 25 = .ok (.istore_n 2, 1) := kd_r kbX9_begin ki_32 rfl
theorem dX9_begin_26 : decode cX9_begin 26 = .ok (.iinc 3 1, 3) := kd_r kbX9_begin ki_116 rfl
theorem dX9_begin_29 : decode cX9_begin 29 = .ok (.goto (-25), 3) := kd_r kbX9_begin ki_230 rfl
theorem dX9_begin_32 : decode cX9_begin 32 = .ok (.iload_n 2, 1) := kd_r kbX9_begin ki_11 rfl
theorem dX9_begin_33 : decode cX9_begin 33 = .ok (.ireturn, 1) := kd_r kbX9_begin ki_7 rfl
set_option maxRecDepth 20000 in
theorem ggX9_length_X9_begin : GoodIn wsX9_length wsX9_begin := goodIn_r _ [5, 6, 7, 8, 9, 10, 11] rfl (by decide +kernel)
set_option maxRecDepth 20000 in
theorem gX9_length_X9_begin : GoodIn wsX9_length (wsV RX9 41 RX9 yX9_begin wsX9_begin) := goodIn_app (goodIn_of _ (by decide +kernel)) ggX9_length_X9_begin
theorem dX9_length_0 : decode cX9_length 0 = .ok (.aload_n 0, 1) := kd_r kbX9_length ki_0 rfl
theorem dX9_length_1 : decode cX9_length 1 = .ok (.iload_n 1, 1) := kd_r kbX9_length ki_8 rfl
theorem dX9_length_2 : decode cX9_length 2 = .ok (.bipush 100, 2) := kd_r kbX9_length ki_228 rfl
theorem dX9_length_4 : decode cX9_length 4 = .ok (.irem, 1) := kd_r kbX9_length ki_227 rfl
theorem dX9_length_5 : decode cX9_length 5 = .ok (.iconst 1, 1) := kd_r kbX9_length ki_16 rfl
theorem dX9_length_6 : decode cX9_length 6 = .ok (.iadd, 1) := kd_r kbX9_length ki_30 rfl
theorem dX9_length_7 : decode cX9_length 7 = .ok (.invokevirtual 41, 3) := kd_r kbX9_length ki_419 rfl
theorem dX9_length_10 : decode cX9_length 10 = .ok (.aload_n 0, 1) := kd_r kbX9_length ki_0 rfl
theorem dX9_length_11 : decode cX9_length 11 = .ok (.iload_n 1, 1) := kd_r kbX9_length ki_8 rfl
theorem dX9_length_12 : decode cX9_length 12 = .ok (.bipush 100, 2) := kd_r kbX9_length ki_228 rfl
theorem dX9_length_14 : decode cX9_length 14 = .ok (.idiv, 1) := kd_r kbX9_length ki_225 rfl
theorem dX9_length_15 : decode cX9_length 15 = .ok (.invokevirtual 41, 3) := kd_r kbX9_length ki_419 rfl
theorem dX9_length_18 : decode cX9_length 18 = .ok (.isub, 1) := kd_r kbX9_length ki_50 rfl
theorem dX9_length_19 : decode cX9_length 19 = .ok (.ireturn, 1) := kd_r kbX9_length ki_7 rfl
theorem dX9_endsAt_0 : decode cX9_endsAt 0 = .ok (.iconst 0, 1) := kd_r kbX9_endsAt ki_20 rfl
theorem dX9_endsAt_1 : decode cX9_endsAt 1 = .ok (.istore_n 2, 1) := kd_r kbX9_endsAt ki_32 rfl
theorem dX9_endsAt_2 : decode cX9_endsAt 2 = .ok (.iconst 0, 1) := kd_r kbX9_endsAt ki_20 rfl
theorem dX9_endsAt_3 : decode cX9_endsAt 3 = .ok (.istore_n 3, 1) := kd_r kbX9_endsAt ki_108 rfl
theorem dX9_endsAt_4 : decode cX9_endsAt 4 = .ok (.iload_n 3, 1) := kd_r kbX9_endsAt ki_55 rfl
theorem dX9_endsAt_5 : decode cX9_endsAt 5 = .ok (.aload_n 0, 1) := kd_r kbX9_endsAt ki_0 rfl
theorem dX9_endsAt_6 : decode cX9_endsAt 6 = .ok (.getfield 21, 3) := kd_r kbX9_endsAt ki_94 rfl
theorem dX9_endsAt_9 : decode cX9_endsAt 9 = .ok (.if_icmp .ge 25, 3) := kd_r kbX9_endsAt ki_358 rfl
theorem dX9_endsAt_12 : decode cX9_endsAt 12 = .ok (.iload_n 2, 1) := kd_r kbX9_endsAt ki_11 rfl
theorem dX9_endsAt_13 : decode cX9_endsAt 13 = .ok (.aload_n 0, 1) := kd_r kbX9_endsAt ki_0 rfl
theorem dX9_endsAt_14 : decode cX9_endsAt 14 = .ok (.getfield 9, 3) := kd_r kbX9_endsAt ki_13 rfl
theorem dX9_endsAt_17 : decode cX9_endsAt 17 = .ok (.iload_n 3, 1) := kd_r kbX9_endsAt ki_55 rfl
theorem dX9_endsAt_18 : decode cX9_endsAt 18 = .ok (.iaload, 1) := kd_r kbX9_endsAt ki_14 rfl
theorem dX9_endsAt_19 : decode cX9_endsAt 19 = .ok (.iadd, 1) := kd_r kbX9_endsAt ki_30 rfl
theorem dX9_endsAt_20 : decode cX9_endsAt 20 = .ok (.istore_n 2, 1) := kd_r kbX9_endsAt ki_32 rfl
theorem dX9_endsAt_21 : decode cX9_endsAt 21 = .ok (.iload_n 2, 1) := kd_r kbX9_endsAt ki_11 rfl
theorem dX9_endsAt_22 : decode cX9_endsAt 22 = .ok (.iload_n 1, 1) := kd_r kbX9_endsAt ki_8 rfl
theorem dX9_endsAt_23 : decode cX9_endsAt 23 = .ok (.if_icmp .ne 5, 3) := kd_r kbX9_endsAt ki_91 rfl
theorem dX9_endsAt_26 : decode cX9_endsAt 26 = .ok (.iconst 1, 1) := kd_r kbX9_endsAt ki_16 rfl
theorem dX9_endsAt_27 : decode cX9_endsAt 27 = .ok (.ireturn, 1) := kd_r kbX9_endsAt ki_7 rfl
theorem dX9_endsAt_28 : decode cX9_endsAt 28 = .ok (.iinc 3 1, 3) := kd_r kbX9_endsAt ki_116 rfl
theorem dX9_endsAt_31 : decode cX9_endsAt 31 = .ok (.goto (-27), 3) := kd_r kbX9_endsAt ki_420 rfl
theorem dX9_endsAt_34 : decode cX9_endsAt 34 = .ok (.iconst 0, 1) := kd_r kbX9_endsAt ki_20 rfl
theorem dX9_endsAt_35 : decode cX9_endsAt 35 = .ok (.ireturn, 1) := kd_r kbX9_endsAt ki_7 rfl
theorem dX9_kinks_0 : decode cX9_kinks 0 = .ok (.iconst 0, 1) := kd_r kbX9_kinks ki_20 rfl
theorem dX9_kinks_1 : decode cX9_kinks 1 = .ok (.istore_n 1, 1) := kd_r kbX9_kinks ki_60 rfl
theorem dX9_kinks_2 : decode cX9_kinks 2 = .ok (.iconst 0, 1) := kd_r kbX9_kinks ki_20 rfl
theorem dX9_kinks_3 : decode cX9_kinks 3 = .ok (.istore_n 2, 1) := kd_r kbX9_kinks ki_32 rfl
theorem dX9_kinks_4 : decode cX9_kinks 4 = .ok (.iload_n 2, 1) := kd_r kbX9_kinks ki_11 rfl
theorem dX9_kinks_5 : decode cX9_kinks 5 = .ok (.aload_n 0, 1) := kd_r kbX9_kinks ki_0 rfl
theorem dX9_kinks_6 : decode cX9_kinks 6 = .ok (.getfield 21, 3) := kd_r kbX9_kinks ki_94 rfl
theorem dX9_kinks_9 : decode cX9_kinks 9 = .ok (.if_icmp .ge 21, 3) := kd_r kbX9_kinks ki_226 rfl
theorem dX9_kinks_12 : decode cX9_kinks 12 = .ok (.aload_n 0, 1) := kd_r kbX9_kinks ki_0 rfl
theorem dX9_kinks_13 : decode cX9_kinks 13 = .ok (.getfield 18, 3) := kd_r kbX9_kinks ki_87 rfl
theorem dX9_kinks_16 : decode cX9_kinks 16 = .ok (.iload_n 2, 1) := kd_r kbX9_kinks ki_11 rfl
theorem dX9_kinks_17 : decode cX9_kinks 17 = .ok (.iaload, 1) := kd_r kbX9_kinks ki_14 rfl
theorem dX9_kinks_18 : decode cX9_kinks 18 = .ok (.ifCond .eq 6, 3) := kd_r kbX9_kinks ki_292 rfl
theorem dX9_kinks_21 : decode cX9_kinks 21 = .ok (.iinc 1 1, 3) := kd_r kbX9_kinks ki_62 rfl
theorem dX9_kinks_24 : decode cX9_kinks 24 = .ok (.iinc 2 1, 3) := kd_r kbX9_kinks ki_37 rfl
theorem dX9_kinks_27 : decode cX9_kinks 27 = .ok (.goto (-23), 3) := kd_r kbX9_kinks ki_421 rfl
theorem dX9_kinks_30 : decode cX9_kinks 30 = .ok (.iload_n 1, 1) := kd_r kbX9_kinks ki_8 rfl
theorem dX9_kinks_31 : decode cX9_kinks 31 = .ok (.ireturn, 1) := kd_r kbX9_kinks ki_7 rfl
set_option maxRecDepth 20000 in
theorem ggX9_turns_J6_signum_0f7a4 : GoodIn wsX9_turns wsJ6_signum_0f7a4 := goodIn_r _ [6] rfl (by decide +kernel)
set_option maxRecDepth 20000 in
theorem gX9_turns_J6_signum_0f7a4 : GoodIn wsX9_turns (va_wsS RX9 45 yJ6_signum_0f7a4 wsJ6_signum_0f7a4) := goodIn_app (goodIn_of _ (by decide +kernel)) ggX9_turns_J6_signum_0f7a4
theorem dX9_turns_0 : decode cX9_turns 0 = .ok (.iconst 0, 1) := kd_r kbX9_turns ki_20 rfl
theorem dX9_turns_1 : decode cX9_turns 1 = .ok (.istore_n 1, 1) := kd_r kbX9_turns ki_60 rfl
theorem dX9_turns_2 : decode cX9_turns 2 = .ok (.iconst 0, 1) := kd_r kbX9_turns ki_20 rfl
theorem dX9_turns_3 : decode cX9_turns 3 = .ok (.istore_n 2, 1) := kd_r kbX9_turns ki_32 rfl
theorem dX9_turns_4 : decode cX9_turns 4 = .ok (.iconst 0, 1) := kd_r kbX9_turns ki_20 rfl
theorem dX9_turns_5 : decode cX9_turns 5 = .ok (.istore_n 3, 1) := kd_r kbX9_turns ki_108 rfl
theorem dX9_turns_6 : decode cX9_turns 6 = .ok (.iload_n 3, 1) := kd_r kbX9_turns ki_55 rfl
theorem dX9_turns_7 : decode cX9_turns 7 = .ok (.aload_n 0, 1) := kd_r kbX9_turns ki_0 rfl
theorem dX9_turns_8 : decode cX9_turns 8 = .ok (.getfield 21, 3) := kd_r kbX9_turns ki_94 rfl
theorem dX9_turns_11 : decode cX9_turns 11 = .ok (.if_icmp .ge 43, 3) := kd_r kbX9_turns ki_347 rfl
theorem dX9_turns_14 : decode cX9_turns 14 = .ok (.aload_n 0, 1) := kd_r kbX9_turns ki_0 rfl
theorem dX9_turns_15 : decode cX9_turns 15 = .ok (.getfield 18, 3) := kd_r kbX9_turns ki_87 rfl
theorem dX9_turns_18 : decode cX9_turns 18 = .ok (.iload_n 3, 1) := kd_r kbX9_turns ki_55 rfl
theorem dX9_turns_19 : decode cX9_turns 19 = .ok (.iaload, 1) := kd_r kbX9_turns ki_14 rfl
theorem dX9_turns_20 : decode cX9_turns 20 = .ok (.invokestatic 45, 3) := kd_r kbX9_turns ki_375 rfl
theorem dX9_turns_23 : decode cX9_turns 23 = .ok (.istore 4, 2) := kd_r kbX9_turns ki_129 rfl
theorem dX9_turns_25 : decode cX9_turns 25 = .ok (.iload 4, 2) := kd_r kbX9_turns ki_57 rfl
theorem dX9_turns_27 : decode cX9_turns 27 = .ok (.ifCond .eq 21, 3) := kd_r kbX9_turns ki_422 rfl
theorem dX9_turns_30 : decode cX9_turns 30 = .ok (.iload_n 1, 1) := kd_r kbX9_turns ki_8 rfl
theorem dX9_turns_31 : decode cX9_turns 31 = .ok (.iload 4, 2) := kd_r kbX9_turns ki_57 rfl
theorem dX9_turns_33 : decode cX9_turns 33 = .ok (.iload_n 2, 1) := kd_r kbX9_turns ki_11 rfl
theorem dX9_turns_34 : decode cX9_turns 34 = .ok (.ineg, 1) := kd_r kbX9_turns ki_276 rfl
theorem dX9_turns_35 : decode cX9_turns 35 = .ok (.if_icmp .ne 7, 3) := kd_r kbX9_turns ki_280 rfl
theorem dX9_turns_38 : decode cX9_turns 38 = .ok (.iconst 1, 1) := kd_r kbX9_turns ki_16 rfl
theorem dX9_turns_39 : decode cX9_turns 39 = .ok (.goto 4, 3) := kd_r kbX9_turns ki_19 rfl
theorem dX9_turns_42 : decode cX9_turns 42 = .ok (.iconst 0, 1) := kd_r kbX9_turns ki_20 rfl
theorem dX9_turns_43 : decode cX9_turns 43 = .ok (.iadd, 1) := kd_r kbX9_turns ki_30 rfl
theorem dX9_turns_44 : decode cX9_turns 44 = .ok (.istore_n 1, 1) := kd_r kbX9_turns ki_60 rfl
theorem dX9_turns_45 : decode cX9_turns 45 = .ok (.iload 4, 2) := kd_r kbX9_turns ki_57 rfl
theorem dX9_turns_47 : decode cX9_turns 47 = .ok (.istore_n 2, 1) := kd_r kbX9_turns ki_32 rfl
theorem dX9_turns_48 : decode cX9_turns 48 = .ok (.iinc 3 1, 3) := kd_r kbX9_turns ki_116 rfl
theorem dX9_turns_51 : decode cX9_turns 51 = .ok (.goto (-45), 3) := kd_r kbX9_turns ki_349 rfl
theorem dX9_turns_54 : decode cX9_turns 54 = .ok (.iload_n 1, 1) := kd_r kbX9_turns ki_8 rfl
theorem dX9_turns_55 : decode cX9_turns 55 = .ok (.ireturn, 1) := kd_r kbX9_turns ki_7 rfl
set_option maxRecDepth 20000 in
theorem ggX9_longestAbove_X9_length : GoodIn wsX9_longestAbove wsX9_length := goodIn_r _ [7, 8, 9, 10, 6, 11, 1, 12, 13, 14, 15, 16] rfl (by decide +kernel)
set_option maxRecDepth 20000 in
theorem gX9_longestAbove_X9_length : GoodIn wsX9_longestAbove (wsV RX9 50 RX9 yX9_length wsX9_length) := goodIn_app (goodIn_of _ (by decide +kernel)) ggX9_longestAbove_X9_length
theorem dX9_longestAbove_0 : decode cX9_longestAbove 0 = .ok (.bipush (-2), 2) := kd_r kbX9_longestAbove ki_39 rfl
theorem dX9_longestAbove_2 : decode cX9_longestAbove 2 = .ok (.istore_n 2, 1) := kd_r kbX9_longestAbove ki_32 rfl
theorem dX9_longestAbove_3 : decode cX9_longestAbove 3 = .ok (.iconst 0, 1) := kd_r kbX9_longestAbove ki_20 rfl
theorem dX9_longestAbove_4 : decode cX9_longestAbove 4 = .ok (.istore_n 3, 1) := kd_r kbX9_longestAbove ki_108 rfl
theorem dX9_longestAbove_5 : decode cX9_longestAbove 5 = .ok (.iconst 0, 1) := kd_r kbX9_longestAbove ki_20 rfl
theorem dX9_longestAbove_6 : decode cX9_longestAbove 6 = .ok (.istore 4, 2) := kd_r kbX9_longestAbove ki_129 rfl
theorem dX9_longestAbove_8 : decode cX9_longestAbove 8 = .ok (.iconst 0, 1) := kd_r kbX9_longestAbove ki_20 rfl
theorem dX9_longestAbove_9 : decode cX9_longestAbove 9 = .ok (.istore 5, 2) := kd_r kbX9_longestAbove ki_133 rfl
theorem dX9_longestAbove_11 : decode cX9_longestAbove 11 = .ok (.iload 5, 2) := kd_r kbX9_longestAbove ki_134 rfl
theorem dX9_longestAbove_13 : decode cX9_longestAbove 13 = .ok (.aload_n 0, 1) := kd_r kbX9_longestAbove ki_0 rfl
theorem dX9_longestAbove_14 : decode cX9_longestAbove 14 = .ok (.getfield 21, 3) := kd_r kbX9_longestAbove ki_94 rfl
theorem dX9_longestAbove_17 : decode cX9_longestAbove 17 = .ok (.if_icmp .gt 79, 3) := kd_r kbX9_longestAbove ki_423 rfl
theorem dX9_longestAbove_20 : decode cX9_longestAbove 20 = .ok (.iload 5, 2) := kd_r kbX9_longestAbove ki_134 rfl
theorem dX9_longestAbove_22 : decode cX9_longestAbove 22 = .ok (.aload_n 0, 1) := kd_r kbX9_longestAbove ki_0 rfl
theorem dX9_longestAbove_23 : decode cX9_longestAbove 23 = .ok (.getfield 21, 3) := kd_r kbX9_longestAbove ki_94 rfl
theorem dX9_longestAbove_26 : decode cX9_longestAbove 26 = .ok (.if_icmp .ge 17, 3) := kd_r kbX9_longestAbove ki_424 rfl
theorem dX9_longestAbove_29 : decode cX9_longestAbove 29 = .ok (.aload_n 0, 1) := kd_r kbX9_longestAbove ki_0 rfl
theorem dX9_longestAbove_30 : decode cX9_longestAbove 30 = .ok (.getfield 15, 3) := kd_r kbX9_longestAbove ki_6 rfl
theorem dX9_longestAbove_33 : decode cX9_longestAbove 33 = .ok (.iload 5, 2) := kd_r kbX9_longestAbove ki_134 rfl
theorem dX9_longestAbove_35 : decode cX9_longestAbove 35 = .ok (.iaload, 1) := kd_r kbX9_longestAbove ki_14 rfl
theorem dX9_longestAbove_36 : decode cX9_longestAbove 36 = .ok (.iload_n 1, 1) := kd_r kbX9_longestAbove ki_8 rfl
theorem dX9_longestAbove_37 : decode cX9_longestAbove 37 = .ok (.if_icmp .le 6, 3) := kd_r kbX9_longestAbove ki_425 rfl
theorem dX9_longestAbove_40 : decode cX9_longestAbove 40 = .ok (.goto 50, 3) := kd_r kbX9_longestAbove ki_343 rfl
theorem dX9_longestAbove_43 : decode cX9_longestAbove 43 = .ok (.bipush 100, 2) := kd_r kbX9_longestAbove ki_228 rfl
theorem dX9_longestAbove_45 : decode cX9_longestAbove 45 = .ok (.iload 4, 2) := kd_r kbX9_longestAbove ki_57 rfl
theorem dX9_longestAbove_47 : decode cX9_longestAbove 47 = .ok (.imul, 1) := kd_r kbX9_longestAbove ki_114 rfl
theorem dX9_longestAbove_48 : decode cX9_longestAbove 48 = .ok (.iload 5, 2) := kd_r kbX9_longestAbove ki_134 rfl
theorem dX9_longestAbove_50 : decode cX9_longestAbove 50 = .ok (.iadd, 1) := kd_r kbX9_longestAbove ki_30 rfl
theorem dX9_longestAbove_51 : decode cX9_longestAbove 51 = .ok (.iconst 1, 1) := kd_r kbX9_longestAbove ki_16 rfl
theorem dX9_longestAbove_52 : decode cX9_longestAbove 52 = .ok (.isub, 1) := kd_r kbX9_longestAbove ki_50 rfl
theorem dX9_longestAbove_53 : decode cX9_longestAbove 53 = .ok (.istore 6, 2) := kd_r kbX9_longestAbove ki_199 rfl
theorem dX9_longestAbove_55 : decode cX9_longestAbove 55 = .ok (.iload 5, 2) := kd_r kbX9_longestAbove ki_134 rfl
theorem dX9_longestAbove_57 : decode cX9_longestAbove 57 = .ok (.iload 4, 2) := kd_r kbX9_longestAbove ki_57 rfl
theorem dX9_longestAbove_59 : decode cX9_longestAbove 59 = .ok (.isub, 1) := kd_r kbX9_longestAbove ki_50 rfl
theorem dX9_longestAbove_60 : decode cX9_longestAbove 60 = .ok (.iconst 2, 1) := kd_r kbX9_longestAbove ki_244 rfl
theorem dX9_longestAbove_61 : decode cX9_longestAbove 61 = .ok (.if_icmp .lt 23, 3) := kd_r kbX9_longestAbove ki_426 rfl
theorem dX9_longestAbove_64 : decode cX9_longestAbove 64 = .ok (.aload_n 0, 1) := kd_r kbX9_longestAbove ki_0 rfl
theorem dX9_longestAbove_65 : decode cX9_longestAbove 65 = .ok (.iload 6, 2) := kd_r kbX9_longestAbove ki_200 rfl
theorem dX9_longestAbove_67 : decode cX9_longestAbove 67 = .ok (.invokevirtual 50, 3) := kd_r kbX9_longestAbove ki_311 rfl
theorem dX9_longestAbove_70 : decode cX9_longestAbove 70 = .ok (.iload_n 3, 1) := kd_r kbX9_longestAbove ki_55 rfl
theorem dX9_longestAbove_71 : decode cX9_longestAbove 71 = .ok (.if_icmp .le 13, 3) := kd_r kbX9_longestAbove ki_427 rfl
theorem dX9_longestAbove_74 : decode cX9_longestAbove 74 = .ok (.aload_n 0, 1) := kd_r kbX9_longestAbove ki_0 rfl
theorem dX9_longestAbove_75 : decode cX9_longestAbove 75 = .ok (.iload 6, 2) := kd_r kbX9_longestAbove ki_200 rfl
theorem dX9_longestAbove_77 : decode cX9_longestAbove 77 = .ok (.invokevirtual 50, 3) := kd_r kbX9_longestAbove ki_311 rfl
theorem dX9_longestAbove_80 : decode cX9_longestAbove 80 = .ok (.istore_n 3, 1) := kd_r kbX9_longestAbove ki_108 rfl
theorem dX9_longestAbove_81 : decode cX9_longestAbove 81 = .ok (.iload 6, 2) := kd_r kbX9_longestAbove ki_200 rfl
theorem dX9_longestAbove_83 : decode cX9_longestAbove 83 = .ok (.istore_n 2, 1) := kd_r kbX9_longestAbove ki_32 rfl
theorem dX9_longestAbove_84 : decode cX9_longestAbove 84 = .ok (.iload 5, 2) := kd_r kbX9_longestAbove ki_134 rfl
theorem dX9_longestAbove_86 : decode cX9_longestAbove 86 = .ok (.iconst 1, 1) := kd_r kbX9_longestAbove ki_16 rfl
theorem dX9_longestAbove_87 : decode cX9_longestAbove 87 = .ok (.iadd, 1) := kd_r kbX9_longestAbove ki_30 rfl
theorem dX9_longestAbove_88 : decode cX9_longestAbove 88 = .ok (.istore 4, 2) := kd_r kbX9_longestAbove ki_129 rfl
theorem dX9_longestAbove_90 : decode cX9_longestAbove 90 = .ok (.iinc 5 1, 3) := kd_r kbX9_longestAbove ki_143 rfl
theorem dX9_longestAbove_93 : decode cX9_longestAbove 93 = .ok (.goto (-82), 3) := kd_r kbX9_longestAbove ki_428 rfl
theorem dX9_longestAbove_96 : decode cX9_longestAbove 96 = .ok (.iload_n 2, 1) := kd_r kbX9_longestAbove ki_11 rfl
theorem dX9_longestAbove_97 : decode cX9_longestAbove 97 = .ok (.ireturn, 1) := kd_r kbX9_longestAbove ki_7 rfl
set_option maxRecDepth 20000 in
theorem ggX9_leastDeep_X9_fact : GoodIn wsX9_leastDeep wsX9_fact := goodIn_r _ [5, 6, 7, 8, 4, 9, 10, 11, 12, 13, 14, 15, 16, 17, 18, 19, 20, 21] rfl (by decide +kernel)
set_option maxRecDepth 20000 in
theorem gX9_leastDeep_X9_fact : GoodIn wsX9_leastDeep (wsV RX9 53 RX9 yX9_fact wsX9_fact) := goodIn_app (goodIn_of _ (by decide +kernel)) ggX9_leastDeep_X9_fact
theorem dX9_leastDeep_0 : decode cX9_leastDeep 0 = .ok (.iload_n 1, 1) := kd_r kbX9_leastDeep ki_8 rfl
theorem dX9_leastDeep_1 : decode cX9_leastDeep 1 = .ok (.bipush 100, 2) := kd_r kbX9_leastDeep ki_228 rfl
theorem dX9_leastDeep_3 : decode cX9_leastDeep 3 = .ok (.idiv, 1) := kd_r kbX9_leastDeep ki_225 rfl
theorem dX9_leastDeep_4 : decode cX9_leastDeep 4 = .ok (.istore_n 2, 1) := kd_r kbX9_leastDeep ki_32 rfl
theorem dX9_leastDeep_5 : decode cX9_leastDeep 5 = .ok (.iload_n 2, 1) := kd_r kbX9_leastDeep ki_11 rfl
theorem dX9_leastDeep_6 : decode cX9_leastDeep 6 = .ok (.istore_n 3, 1) := kd_r kbX9_leastDeep ki_108 rfl
theorem dX9_leastDeep_7 : decode cX9_leastDeep 7 = .ok (.iload_n 3, 1) := kd_r kbX9_leastDeep ki_55 rfl
theorem dX9_leastDeep_8 : decode cX9_leastDeep 8 = .ok (.iload_n 1, 1) := kd_r kbX9_leastDeep ki_8 rfl
theorem dX9_leastDeep_9 : decode cX9_leastDeep 9 = .ok (.bipush 100, 2) := kd_r kbX9_leastDeep ki_228 rfl
theorem dX9_leastDeep_11 : decode cX9_leastDeep 11 = .ok (.irem, 1) := kd_r kbX9_leastDeep ki_227 rfl
theorem dX9_leastDeep_12 : decode cX9_leastDeep 12 = .ok (.if_icmp .gt 26, 3) := kd_r kbX9_leastDeep ki_429 rfl
theorem dX9_leastDeep_15 : decode cX9_leastDeep 15 = .ok (.aload_n 0, 1) := kd_r kbX9_leastDeep ki_0 rfl
theorem dX9_leastDeep_16 : decode cX9_leastDeep 16 = .ok (.iconst 1, 1) := kd_r kbX9_leastDeep ki_16 rfl
theorem dX9_leastDeep_17 : decode cX9_leastDeep 17 = .ok (.iload_n 3, 1) := kd_r kbX9_leastDeep ki_55 rfl
theorem dX9_leastDeep_18 : decode cX9_leastDeep 18 = .ok (.invokevirtual 53, 3) := kd_r kbX9_leastDeep ki_312 rfl
theorem dX9_leastDeep_21 : decode cX9_leastDeep 21 = .ok (.aload_n 0, 1) := kd_r kbX9_leastDeep ki_0 rfl
theorem dX9_leastDeep_22 : decode cX9_leastDeep 22 = .ok (.iconst 1, 1) := kd_r kbX9_leastDeep ki_16 rfl
theorem dX9_leastDeep_23 : decode cX9_leastDeep 23 = .ok (.iload_n 2, 1) := kd_r kbX9_leastDeep ki_11 rfl
theorem dX9_leastDeep_24 : decode cX9_leastDeep 24 = .ok (.invokevirtual 53, 3) := kd_r kbX9_leastDeep ki_312 rfl
theorem dX9_leastDeep_27 : decode cX9_leastDeep 27 = .ok (.if_icmp .ge 5, 3) := kd_r kbX9_leastDeep ki_430 rfl
theorem dX9_leastDeep_30 : decode cX9_leastDeep 30 = .ok (.iload_n 3, 1) := kd_r kbX9_leastDeep ki_55 rfl
theorem dX9_leastDeep_31 : decode cX9_leastDeep 31 = .ok (.istore_n 2, 1) := kd_r kbX9_leastDeep ki_32 rfl
theorem dX9_leastDeep_32 : decode cX9_leastDeep 32 = .ok (.iinc 3 1, 3) := kd_r kbX9_leastDeep ki_116 rfl
theorem dX9_leastDeep_35 : decode cX9_leastDeep 35 = .ok (.goto (-28), 3) := kd_r kbX9_leastDeep ki_332 rfl
theorem dX9_leastDeep_38 : decode cX9_leastDeep 38 = .ok (.iload_n 2, 1) := kd_r kbX9_leastDeep ki_11 rfl
theorem dX9_leastDeep_39 : decode cX9_leastDeep 39 = .ok (.ireturn, 1) := kd_r kbX9_leastDeep ki_7 rfl
set_option maxRecDepth 20000 in
theorem ggX9_join_X9_width : GoodIn wsX9_join wsX9_width := goodIn_r _ [6, 1, 7, 8, 9, 5, 10, 11, 18, 19, 20, 21] rfl (by decide +kernel)
set_option maxRecDepth 20000 in
theorem gX9_join_X9_width : GoodIn wsX9_join (wsV RX9 57 RX9 yX9_width wsX9_width) := goodIn_app (goodIn_of _ (by decide +kernel)) ggX9_join_X9_width
set_option maxRecDepth 20000 in
theorem ggX9_join_X9_has : GoodIn wsX9_join wsX9_has := goodIn_r _ [10, 11, 18, 19, 20, 21] rfl (by decide +kernel)
set_option maxRecDepth 20000 in
theorem gX9_join_X9_has : GoodIn wsX9_join (wsV RX9 25 RX9 yX9_has wsX9_has) := goodIn_app (goodIn_of _ (by decide +kernel)) ggX9_join_X9_has
set_option maxRecDepth 20000 in
theorem ggX9_join_X9_remove : GoodIn wsX9_join wsX9_remove := goodIn_r _ [15, 11, 1, 16, 17, 7, 8, 9, 5, 10, 18, 19, 20, 21] rfl (by decide +kernel)
set_option maxRecDepth 20000 in
theorem gX9_join_X9_remove : GoodIn wsX9_join (wsV RX9 60 RX9 yX9_remove wsX9_remove) := goodIn_app (goodIn_of _ (by decide +kernel)) ggX9_join_X9_remove
theorem dX9_join_0 : decode cX9_join 0 = .ok (.aload_n 0, 1) := kd_r kbX9_join ki_0 rfl
theorem dX9_join_1 : decode cX9_join 1 = .ok (.iload_n 1, 1) := kd_r kbX9_join ki_8 rfl
theorem dX9_join_2 : decode cX9_join 2 = .ok (.invokevirtual 57, 3) := kd_r kbX9_join ki_431 rfl
theorem dX9_join_5 : decode cX9_join 5 = .ok (.aload_n 0, 1) := kd_r kbX9_join ki_0 rfl
theorem dX9_join_6 : decode cX9_join 6 = .ok (.iload_n 1, 1) := kd_r kbX9_join ki_8 rfl
theorem dX9_join_7 : decode cX9_join 7 = .ok (.iconst 1, 1) := kd_r kbX9_join ki_16 rfl
theorem dX9_join_8 : decode cX9_join 8 = .ok (.iadd, 1) := kd_r kbX9_join ki_30 rfl
theorem dX9_join_9 : decode cX9_join 9 = .ok (.invokevirtual 57, 3) := kd_r kbX9_join ki_431 rfl
theorem dX9_join_12 : decode cX9_join 12 = .ok (.iadd, 1) := kd_r kbX9_join ki_30 rfl
theorem dX9_join_13 : decode cX9_join 13 = .ok (.istore_n 2, 1) := kd_r kbX9_join ki_32 rfl
theorem dX9_join_14 : decode cX9_join 14 = .ok (.aload_n 0, 1) := kd_r kbX9_join ki_0 rfl
theorem dX9_join_15 : decode cX9_join 15 = .ok (.iload_n 1, 1) := kd_r kbX9_join ki_8 rfl
theorem dX9_join_16 : decode cX9_join 16 = .ok (.invokevirtual 25, 3) := kd_r kbX9_join ki_192 rfl
theorem dX9_join_19 : decode cX9_join 19 = .ok (.ifCond .eq 34, 3) := kd_r kbX9_join ki_22 rfl
theorem dX9_join_22 : decode cX9_join 22 = .ok (.aload_n 0, 1) := kd_r kbX9_join ki_0 rfl
theorem dX9_join_23 : decode cX9_join 23 = .ok (.iload_n 1, 1) := kd_r kbX9_join ki_8 rfl
theorem dX9_join_24 : decode cX9_join 24 = .ok (.iconst 1, 1) := kd_r kbX9_join ki_16 rfl
theorem dX9_join_25 : decode cX9_join 25 = .ok (.iadd, 1) := kd_r kbX9_join ki_30 rfl
theorem dX9_join_26 : decode cX9_join 26 = .ok (.invokevirtual 25, 3) := kd_r kbX9_join ki_192 rfl
theorem dX9_join_29 : decode cX9_join 29 = .ok (.ifCond .eq 24, 3) := kd_r kbX9_join ki_432 rfl
theorem dX9_join_32 : decode cX9_join 32 = .ok (.iload_n 2, 1) := kd_r kbX9_join ki_11 rfl
theorem dX9_join_33 : decode cX9_join 33 = .ok (.sipush 999, 3) := kd_r kbX9_join ki_404 rfl
theorem dX9_join_36 : decode cX9_join 36 = .ok (.if_icmp .gt 17, 3) := kd_r kbX9_join ki_392 rfl
theorem dX9_join_39 : decode cX9_join 39 = .ok (.aload_n 0, 1) := kd_r kbX9_join ki_0 rfl
theorem dX9_join_40 : decode cX9_join 40 = .ok (.getfield 9, 3) := kd_r kbX9_join ki_13 rfl
theorem dX9_join_43 : decode cX9_join 43 = .ok (.iload_n 1, 1) := kd_r kbX9_join ki_8 rfl
theorem dX9_join_44 : decode cX9_join 44 = .ok (.iload_n 2, 1) := kd_r kbX9_join ki_11 rfl
theorem dX9_join_45 : decode cX9_join 45 = .ok (.iastore, 1) := kd_r kbX9_join ki_28 rfl
theorem dX9_join_46 : decode cX9_join 46 = .ok (.aload_n 0, 1) := kd_r kbX9_join ki_0 rfl
theorem dX9_join_47 : decode cX9_join 47 = .ok (.iload_n 1, 1) := kd_r kbX9_join ki_8 rfl
theorem dX9_join_48 : decode cX9_join 48 = .ok (.iconst 1, 1) := kd_r kbX9_join ki_16 rfl
theorem dX9_join_49 : decode cX9_join 49 = .ok (.iadd, 1) := kd_r kbX9_join ki_30 rfl
theorem dX9_join_50 : decode cX9_join 50 = .ok (.invokevirtual 60, 3) := kd_r kbX9_join ki_239 rfl
theorem dX9_join_53 : decode cX9_join 53 = .ok (.return_, 1) := kd_r kbX9_join ki_5 rfl
set_option maxRecDepth 20000 in
theorem ggX9_part_X9_width : GoodIn wsX9_part wsX9_width := goodIn_r _ [5, 6, 7, 8, 9, 4, 10, 11, 34, 35, 36, 37] rfl (by decide +kernel)
set_option maxRecDepth 20000 in
theorem gX9_part_X9_width : GoodIn wsX9_part (wsV RX9 57 RX9 yX9_width wsX9_width) := goodIn_app (goodIn_of _ (by decide +kernel)) ggX9_part_X9_width
set_option maxRecDepth 20000 in
theorem ggX9_part_X9_isFull : GoodIn wsX9_part wsX9_isFull := goodIn_r _ [15, 11, 34, 35, 36, 37] rfl (by decide +kernel)
set_option maxRecDepth 20000 in
theorem gX9_part_X9_isFull : GoodIn wsX9_part (wsV RX9 64 RX9 yX9_isFull wsX9_isFull) := goodIn_app (goodIn_of _ (by decide +kernel)) ggX9_part_X9_isFull
set_option maxRecDepth 20000 in
theorem ggX9_part_X9_tell : GoodIn wsX9_part wsX9_tell := goodIn_r _ [19, 7, 8, 9, 4, 10, 11, 20, 21, 22, 23, 6, 24, 25, 34, 35, 36, 37] rfl (by decide +kernel)
set_option maxRecDepth 20000 in
theorem gX9_part_X9_tell : GoodIn wsX9_part (wsV RX9 68 RX9 yX9_tell wsX9_tell) := goodIn_app (goodIn_of _ (by decide +kernel)) ggX9_part_X9_tell
set_option maxRecDepth 20000 in
theorem ggX9_part_X9_fact : GoodIn wsX9_part wsX9_fact := goodIn_r _ [29, 7, 8, 9, 4, 10, 11, 20, 21, 22, 23, 6, 24, 25, 34, 35, 36, 37] rfl (by decide +kernel)
set_option maxRecDepth 20000 in
theorem gX9_part_X9_fact : GoodIn wsX9_part (wsV RX9 53 RX9 yX9_fact wsX9_fact) := goodIn_app (goodIn_of _ (by decide +kernel)) ggX9_part_X9_fact
set_option maxRecDepth 20000 in
theorem ggX9_part_X9_insert : GoodIn wsX9_part wsX9_insert := goodIn_r _ [33, 11, 6, 24, 25, 12, 13, 14, 4, 15, 34, 35, 36, 37] rfl (by decide +kernel)
set_option maxRecDepth 20000 in
theorem gX9_part_X9_insert : GoodIn wsX9_part (wsV RX9 33 RX9 yX9_insert wsX9_insert) := goodIn_app (goodIn_of _ (by decide +kernel)) ggX9_part_X9_insert
theorem dX9_part_0 : decode cX9_part 0 = .ok (.aload_n 0, 1) := kd_r kbX9_part ki_0 rfl
theorem dX9_part_1 : decode cX9_part 1 = .ok (.iload_n 1, 1) := kd_r kbX9_part ki_8 rfl
theorem dX9_part_2 : decode cX9_part 2 = .ok (.invokevirtual 57, 3) := kd_r kbX9_part ki_431 rfl
theorem dX9_part_5 : decode cX9_part 5 = .ok (.istore_n 2, 1) := kd_r kbX9_part ki_32 rfl
theorem dX9_part_6 : decode cX9_part 6 = .ok (.iload_n 2, 1) := kd_r kbX9_part ki_11 rfl
theorem dX9_part_7 : decode cX9_part 7 = .ok (.iconst 1, 1) := kd_r kbX9_part ki_16 rfl
theorem dX9_part_8 : decode cX9_part 8 = .ok (.if_icmp .le 38, 3) := kd_r kbX9_part ki_433 rfl
theorem dX9_part_11 : decode cX9_part 11 = .ok (.aload_n 0, 1) := kd_r kbX9_part ki_0 rfl
theorem dX9_part_12 : decode cX9_part 12 = .ok (.invokevirtual 64, 3) := kd_r kbX9_part ki_434 rfl
theorem dX9_part_15 : decode cX9_part 15 = .ok (.ifCond .ne 31, 3) := kd_r kbX9_part ki_435 rfl
theorem dX9_part_18 : decode cX9_part 18 = .ok (.aload_n 0, 1) := kd_r kbX9_part ki_0 rfl
theorem dX9_part_19 : decode cX9_part 19 = .ok (.iconst 0, 1) := kd_r kbX9_part ki_20 rfl
theorem dX9_part_20 : decode cX9_part 20 = .ok (.iload_n 1, 1) := kd_r kbX9_part ki_8 rfl
theorem dX9_part_21 : decode cX9_part 21 = .ok (.iload_n 2, 1) := kd_r kbX9_part ki_11 rfl
theorem dX9_part_22 : decode cX9_part 22 = .ok (.iconst 2, 1) := kd_r kbX9_part ki_244 rfl
theorem dX9_part_23 : decode cX9_part 23 = .ok (.idiv, 1) := kd_r kbX9_part ki_225 rfl
theorem dX9_part_24 : decode cX9_part 24 = .ok (.invokevirtual 68, 3) := kd_r kbX9_part ki_436 rfl
theorem dX9_part_27 : decode cX9_part 27 = .ok (.aload_n 0, 1) := kd_r kbX9_part ki_0 rfl
theorem dX9_part_28 : decode cX9_part 28 = .ok (.iload_n 1, 1) := kd_r kbX9_part ki_8 rfl
theorem dX9_part_29 : decode cX9_part 29 = .ok (.iconst 1, 1) := kd_r kbX9_part ki_16 rfl
theorem dX9_part_30 : decode cX9_part 30 = .ok (.iadd, 1) := kd_r kbX9_part ki_30 rfl
theorem dX9_part_31 : decode cX9_part 31 = .ok (.iload_n 2, 1) := kd_r kbX9_part ki_11 rfl
theorem dX9_part_32 : decode cX9_part 32 = .ok (.iload_n 2, 1) := kd_r kbX9_part ki_11 rfl
theorem dX9_part_33 : decode cX9_part 33 = .ok (.iconst 2, 1) := kd_r kbX9_part ki_244 rfl
theorem dX9_part_34 : decode cX9_part 34 = .ok (.idiv, 1) := kd_r kbX9_part ki_225 rfl
theorem dX9_part_35 : decode cX9_part 35 = .ok (.isub, 1) := kd_r kbX9_part ki_50 rfl
theorem dX9_part_36 : decode cX9_part 36 = .ok (.aload_n 0, 1) := kd_r kbX9_part ki_0 rfl
theorem dX9_part_37 : decode cX9_part 37 = .ok (.iconst 1, 1) := kd_r kbX9_part ki_16 rfl
theorem dX9_part_38 : decode cX9_part 38 = .ok (.iload_n 1, 1) := kd_r kbX9_part ki_8 rfl
theorem dX9_part_39 : decode cX9_part 39 = .ok (.invokevirtual 53, 3) := kd_r kbX9_part ki_312 rfl
theorem dX9_part_42 : decode cX9_part 42 = .ok (.iconst 0, 1) := kd_r kbX9_part ki_20 rfl
theorem dX9_part_43 : decode cX9_part 43 = .ok (.invokevirtual 33, 3) := kd_r kbX9_part ki_294 rfl
theorem dX9_part_46 : decode cX9_part 46 = .ok (.return_, 1) := kd_r kbX9_part ki_5 rfl
set_option maxRecDepth 20000 in
theorem ggX9_stepAside_X9_aside : GoodIn wsX9_stepAside wsX9_aside := goodIn_r _ [9, 10, 11, 12, 13, 8, 14, 15, 26, 27, 28, 29] rfl (by decide +kernel)
set_option maxRecDepth 20000 in
theorem gX9_stepAside_X9_aside : GoodIn wsX9_stepAside (wsV RX9 72 RX9 yX9_aside wsX9_aside) := goodIn_app (goodIn_of _ (by decide +kernel)) ggX9_stepAside_X9_aside
set_option maxRecDepth 20000 in
theorem ggX9_stepAside_X9_tell : GoodIn wsX9_stepAside wsX9_tell := goodIn_r _ [19, 11, 12, 13, 8, 14, 15, 20, 21, 22, 23, 24, 25, 10, 26, 27, 28, 29] rfl (by decide +kernel)
set_option maxRecDepth 20000 in
theorem gX9_stepAside_X9_tell : GoodIn wsX9_stepAside (wsV RX9 68 RX9 yX9_tell wsX9_tell) := goodIn_app (goodIn_of _ (by decide +kernel)) ggX9_stepAside_X9_tell
theorem dX9_stepAside_0 : decode cX9_stepAside 0 = .ok (.iload_n 1, 1) := kd_r kbX9_stepAside ki_8 rfl
theorem dX9_stepAside_1 : decode cX9_stepAside 1 = .ok (.ifCond .le 21, 3) := kd_r kbX9_stepAside ki_437 rfl
theorem dX9_stepAside_4 : decode cX9_stepAside 4 = .ok (.aload_n 0, 1) := kd_r kbX9_stepAside ki_0 rfl
theorem dX9_stepAside_5 : decode cX9_stepAside 5 = .ok (.iconst 2, 1) := kd_r kbX9_stepAside ki_244 rfl
theorem dX9_stepAside_6 : decode cX9_stepAside 6 = .ok (.iload_n 1, 1) := kd_r kbX9_stepAside ki_8 rfl
theorem dX9_stepAside_7 : decode cX9_stepAside 7 = .ok (.bipush 99, 2) := kd_r kbX9_stepAside ki_411 rfl
theorem dX9_stepAside_9 : decode cX9_stepAside 9 = .ok (.aload_n 0, 1) := kd_r kbX9_stepAside ki_0 rfl
theorem dX9_stepAside_10 : decode cX9_stepAside 10 = .ok (.iload_n 1, 1) := kd_r kbX9_stepAside ki_8 rfl
theorem dX9_stepAside_11 : decode cX9_stepAside 11 = .ok (.invokevirtual 72, 3) := kd_r kbX9_stepAside ki_438 rfl
theorem dX9_stepAside_14 : decode cX9_stepAside 14 = .ok (.iconst 5, 1) := kd_r kbX9_stepAside ki_79 rfl
theorem dX9_stepAside_15 : decode cX9_stepAside 15 = .ok (.iadd, 1) := kd_r kbX9_stepAside ki_30 rfl
theorem dX9_stepAside_16 : decode cX9_stepAside 16 = .ok (.invokestatic 75, 3) := kd_r kbX9_stepAside ki_439 rfl
theorem dX9_stepAside_19 : decode cX9_stepAside 19 = .ok (.invokevirtual 68, 3) := kd_r kbX9_stepAside ki_436 rfl
theorem dX9_stepAside_22 : decode cX9_stepAside 22 = .ok (.return_, 1) := kd_r kbX9_stepAside ki_5 rfl
set_option maxRecDepth 20000 in
theorem ggX9_insert_X9_isFull : GoodIn wsX9_insert wsX9_isFull := goodIn_r _ [9, 1, 10, 11, 12, 13] rfl (by decide +kernel)
set_option maxRecDepth 20000 in
theorem gX9_insert_X9_isFull : GoodIn wsX9_insert (wsV RX9 64 RX9 yX9_isFull wsX9_isFull) := goodIn_app (goodIn_of _ (by decide +kernel)) ggX9_insert_X9_isFull
theorem dX9_insert_0 : decode cX9_insert 0 = .ok (.aload_n 0, 1) := kd_r kbX9_insert ki_0 rfl
theorem dX9_insert_1 : decode cX9_insert 1 = .ok (.invokevirtual 64, 3) := kd_r kbX9_insert ki_434 rfl
theorem dX9_insert_4 : decode cX9_insert 4 = .ok (.ifCond .ne 15, 3) := kd_r kbX9_insert ki_407 rfl
theorem dX9_insert_7 : decode cX9_insert 7 = .ok (.iload_n 1, 1) := kd_r kbX9_insert ki_8 rfl
theorem dX9_insert_8 : decode cX9_insert 8 = .ok (.ifCond .lt 11, 3) := kd_r kbX9_insert ki_440 rfl
theorem dX9_insert_11 : decode cX9_insert 11 = .ok (.iload_n 1, 1) := kd_r kbX9_insert ki_8 rfl
theorem dX9_insert_12 : decode cX9_insert 12 = .ok (.aload_n 0, 1) := kd_r kbX9_insert ki_0 rfl
theorem dX9_insert_13 : decode cX9_insert 13 = .ok (.getfield 21, 3) := kd_r kbX9_insert ki_94 rfl
theorem dX9_insert_16 : decode cX9_insert 16 = .ok (.if_icmp .le 4, 3) := kd_r kbX9_insert ki_441 rfl
theorem dX9_insert_19 : decode cX9_insert 19 = .ok (.return_, 1) := kd_r kbX9_insert ki_5 rfl
theorem dX9_insert_20 : decode cX9_insert 20 = .ok (.aload_n 0, 1) := kd_r kbX9_insert ki_0 rfl
theorem dX9_insert_21 : decode cX9_insert 21 = .ok (.getfield 21, 3) := kd_r kbX9_insert ki_94 rfl
theorem dX9_insert_24 : decode cX9_insert 24 = .ok (.istore 5, 2) := kd_r kbX9_insert ki_133 rfl
theorem dX9_insert_26 : decode cX9_insert 26 = .ok (.iload 5, 2) := kd_r kbX9_insert ki_134 rfl
theorem dX9_insert_28 : decode cX9_insert 28 = .ok (.iload_n 1, 1) := kd_r kbX9_insert ki_8 rfl
theorem dX9_insert_29 : decode cX9_insert 29 = .ok (.if_icmp .le 57, 3) := kd_r kbX9_insert ki_442 rfl
theorem dX9_insert_32 : decode cX9_insert 32 = .ok (.aload_n 0, 1) := kd_r kbX9_insert ki_0 rfl
theorem dX9_insert_33 : decode cX9_insert 33 = .ok (.getfield 9, 3) := kd_r kbX9_insert ki_13 rfl
theorem dX9_insert_36 : decode cX9_insert 36 = .ok (.iload 5, 2) := kd_r kbX9_insert ki_134 rfl
theorem dX9_insert_38 : decode cX9_insert 38 = .ok (.aload_n 0, 1) := kd_r kbX9_insert ki_0 rfl
theorem dX9_insert_39 : decode cX9_insert 39 = .ok (.getfield 9, 3) := kd_r kbX9_insert ki_13 rfl
theorem dX9_insert_42 : decode cX9_insert 42 = .ok (.iload 5, 2) := kd_r kbX9_insert ki_134 rfl
theorem dX9_insert_44 : decode cX9_insert 44 = .ok (.iconst 1, 1) := kd_r kbX9_insert ki_16 rfl
theorem dX9_insert_45 : decode cX9_insert 45 = .ok (.isub, 1) := kd_r kbX9_insert ki_50 rfl
theorem dX9_insert_46 : decode cX9_insert 46 = .ok (.iaload, 1) := kd_r kbX9_insert ki_14 rfl
theorem dX9_insert_47 : decode cX9_insert 47 = .ok (.iastore, 1) := kd_r kbX9_insert ki_28 rfl
theorem dX9_insert_48 : decode cX9_insert 48 = .ok (.aload_n 0, 1) := kd_r kbX9_insert ki_0 rfl
theorem dX9_insert_49 : decode cX9_insert 49 = .ok (.getfield 15, 3) := kd_r kbX9_insert ki_6 rfl
theorem dX9_insert_52 : decode cX9_insert 52 = .ok (.iload 5, 2) := kd_r kbX9_insert ki_134 rfl
theorem dX9_insert_54 : decode cX9_insert 54 = .ok (.aload_n 0, 1) := kd_r kbX9_insert ki_0 rfl
theorem dX9_insert_55 : decode cX9_insert 55 = .ok (.getfield 15, 3) := kd_r kbX9_insert ki_6 rfl
theorem dX9_insert_58 : decode cX9_insert 58 = .ok (.iload 5, 2) := kd_r kbX9_insert ki_134 rfl
theorem dX9_insert_60 : decode cX9_insert 60 = .ok (.iconst 1, 1) := kd_r kbX9_insert ki_16 rfl
theorem dX9_insert_61 : decode cX9_insert 61 = .ok (.isub, 1) := kd_r kbX9_insert ki_50 rfl
theorem dX9_insert_62 : decode cX9_insert 62 = .ok (.iaload, 1) := kd_r kbX9_insert ki_14 rfl
theorem dX9_insert_63 : decode cX9_insert 63 = .ok (.iastore, 1) := kd_r kbX9_insert ki_28 rfl
theorem dX9_insert_64 : decode cX9_insert 64 = .ok (.aload_n 0, 1) := kd_r kbX9_insert ki_0 rfl
theorem dX9_insert_65 : decode cX9_insert 65 = .ok (.getfield 18, 3) := kd_r kbX9_insert ki_87 rfl
theorem dX9_insert_68 : decode cX9_insert 68 = .ok (.iload 5, 2) := kd_r kbX9_insert ki_134 rfl
theorem dX9_insert_70 : decode cX9_insert 70 = .ok (.aload_n 0, 1) := kd_r kbX9_insert ki_0 rfl
theorem dX9_insert_71 : decode cX9_insert 71 = .ok (.getfield 18, 3) := kd_r kbX9_insert ki_87 rfl
theorem dX9_insert_74 : decode cX9_insert 74 = .ok (.iload 5, 2) := kd_r kbX9_insert ki_134 rfl
theorem dX9_insert_76 : decode cX9_insert 76 = .ok (.iconst 1, 1) := kd_r kbX9_insert ki_16 rfl
theorem dX9_insert_77 : decode cX9_insert 77 = .ok (.isub, 1) := kd_r kbX9_insert ki_50 rfl
theorem dX9_insert_78 : decode cX9_insert 78 = .ok (.iaload, 1) := kd_r kbX9_insert ki_14 rfl
theorem dX9_insert_79 : decode cX9_insert 79 = .ok (.iastore, 1) := kd_r kbX9_insert ki_28 rfl
theorem dX9_insert_80 : decode cX9_insert 80 = .ok (.iinc 5 (-1), 3) := kd_r kbX9_insert ki_196 rfl
theorem dX9_insert_83 : decode cX9_insert 83 = .ok (.goto (-57), 3) := kd_r kbX9_insert ki_443 rfl
theorem dX9_insert_86 : decode cX9_insert 86 = .ok (.aload_n 0, 1) := kd_r kbX9_insert ki_0 rfl
theorem dX9_insert_87 : decode cX9_insert 87 = .ok (.getfield 9, 3) := kd_r kbX9_insert ki_13 rfl
theorem dX9_insert_90 : decode cX9_insert 90 = .ok (.iload_n 1, 1) := kd_r kbX9_insert ki_8 rfl
theorem dX9_insert_91 : decode cX9_insert 91 = .ok (.iload_n 2, 1) := kd_r kbX9_insert ki_11 rfl
theorem dX9_insert_92 : decode cX9_insert 92 = .ok (.iastore, 1) := kd_r kbX9_insert ki_28 rfl
theorem dX9_insert_93 : decode cX9_insert 93 = .ok (.aload_n 0, 1) := kd_r kbX9_insert ki_0 rfl
theorem dX9_insert_94 : decode cX9_insert 94 = .ok (.getfield 15, 3) := kd_r kbX9_insert ki_6 rfl
theorem dX9_insert_97 : decode cX9_insert 97 = .ok (.iload_n 1, 1) := kd_r kbX9_insert ki_8 rfl
theorem dX9_insert_98 : decode cX9_insert 98 = .ok (.iload_n 3, 1) := kd_r kbX9_insert ki_55 rfl
theorem dX9_insert_99 : decode cX9_insert 99 = .ok (.iastore, 1) := kd_r kbX9_insert ki_28 rfl
theorem dX9_insert_100 : decode cX9_insert 100 = .ok (.aload_n 0, 1) := kd_r kbX9_insert ki_0 rfl
theorem dX9_insert_101 : decode cX9_insert 101 = .ok (.getfield 18, 3) := kd_r kbX9_insert ki_87 rfl
theorem dX9_insert_104 : decode cX9_insert 104 = .ok (.iload_n 1, 1) := kd_r kbX9_insert ki_8 rfl
theorem dX9_insert_105 : decode cX9_insert 105 = .ok (.iload 4, 2) := kd_r kbX9_insert ki_57 rfl
theorem dX9_insert_107 : decode cX9_insert 107 = .ok (.iastore, 1) := kd_r kbX9_insert ki_28 rfl
theorem dX9_insert_108 : decode cX9_insert 108 = .ok (.aload_n 0, 1) := kd_r kbX9_insert ki_0 rfl
theorem dX9_insert_109 : decode cX9_insert 109 = .ok (.dup, 1) := kd_r kbX9_insert ki_29 rfl
theorem dX9_insert_110 : decode cX9_insert 110 = .ok (.getfield 21, 3) := kd_r kbX9_insert ki_94 rfl
theorem dX9_insert_113 : decode cX9_insert 113 = .ok (.iconst 1, 1) := kd_r kbX9_insert ki_16 rfl
theorem dX9_insert_114 : decode cX9_insert 114 = .ok (.iadd, 1) := kd_r kbX9_insert ki_30 rfl
theorem dX9_insert_115 : decode cX9_insert 115 = .ok (.putfield 21, 3) := kd_r kbX9_insert ki_75 rfl
theorem dX9_insert_118 : decode cX9_insert 118 = .ok (.return_, 1) := kd_r kbX9_insert ki_5 rfl
set_option maxRecDepth 20000 in
theorem ggX9_remove_X9_has : GoodIn wsX9_remove wsX9_has := goodIn_r _ [9, 1, 10, 11, 12, 13] rfl (by decide +kernel)
set_option maxRecDepth 20000 in
theorem gX9_remove_X9_has : GoodIn wsX9_remove (wsV RX9 25 RX9 yX9_has wsX9_has) := goodIn_app (goodIn_of _ (by decide +kernel)) ggX9_remove_X9_has
theorem dX9_remove_0 : decode cX9_remove 0 = .ok (.aload_n 0, 1) := kd_r kbX9_remove ki_0 rfl
theorem dX9_remove_1 : decode cX9_remove 1 = .ok (.iload_n 1, 1) := kd_r kbX9_remove ki_8 rfl
theorem dX9_remove_2 : decode cX9_remove 2 = .ok (.invokevirtual 25, 3) := kd_r kbX9_remove ki_192 rfl
theorem dX9_remove_5 : decode cX9_remove 5 = .ok (.ifCond .ne 4, 3) := kd_r kbX9_remove ki_182 rfl
theorem dX9_remove_8 : decode cX9_remove 8 = .ok (.return_, 1) := kd_r kbX9_remove ki_5 rfl
theorem dX9_remove_9 : decode cX9_remove 9 = .ok (.iload_n 1, 1) := kd_r kbX9_remove ki_8 rfl
theorem dX9_remove_10 : decode cX9_remove 10 = .ok (.iconst 1, 1) := kd_r kbX9_remove ki_16 rfl
theorem dX9_remove_11 : decode cX9_remove 11 = .ok (.iadd, 1) := kd_r kbX9_remove ki_30 rfl
theorem dX9_remove_12 : decode cX9_remove 12 = .ok (.istore_n 2, 1) := kd_r kbX9_remove ki_32 rfl
theorem dX9_remove_13 : decode cX9_remove 13 = .ok (.iload_n 2, 1) := kd_r kbX9_remove ki_11 rfl
theorem dX9_remove_14 : decode cX9_remove 14 = .ok (.aload_n 0, 1) := kd_r kbX9_remove ki_0 rfl
theorem dX9_remove_15 : decode cX9_remove 15 = .ok (.getfield 21, 3) := kd_r kbX9_remove ki_94 rfl
theorem dX9_remove_18 : decode cX9_remove 18 = .ok (.if_icmp .ge 51, 3) := kd_r kbX9_remove ki_444 rfl
theorem dX9_remove_21 : decode cX9_remove 21 = .ok (.aload_n 0, 1) := kd_r kbX9_remove ki_0 rfl
theorem dX9_remove_22 : decode cX9_remove 22 = .ok (.getfield 9, 3) := kd_r kbX9_remove ki_13 rfl
theorem dX9_remove_25 : decode cX9_remove 25 = .ok (.iload_n 2, 1) := kd_r kbX9_remove ki_11 rfl
theorem dX9_remove_26 : decode cX9_remove 26 = .ok (.iconst 1, 1) := kd_r kbX9_remove ki_16 rfl
theorem dX9_remove_27 : decode cX9_remove 27 = .ok (.isub, 1) := kd_r kbX9_remove ki_50 rfl
theorem dX9_remove_28 : decode cX9_remove 28 = .ok (.aload_n 0, 1) := kd_r kbX9_remove ki_0 rfl
theorem dX9_remove_29 : decode cX9_remove 29 = .ok (.getfield 9, 3) := kd_r kbX9_remove ki_13 rfl
theorem dX9_remove_32 : decode cX9_remove 32 = .ok (.iload_n 2, 1) := kd_r kbX9_remove ki_11 rfl
theorem dX9_remove_33 : decode cX9_remove 33 = .ok (.iaload, 1) := kd_r kbX9_remove ki_14 rfl
theorem dX9_remove_34 : decode cX9_remove 34 = .ok (.iastore, 1) := kd_r kbX9_remove ki_28 rfl
theorem dX9_remove_35 : decode cX9_remove 35 = .ok (.aload_n 0, 1) := kd_r kbX9_remove ki_0 rfl
theorem dX9_remove_36 : decode cX9_remove 36 = .ok (.getfield 15, 3) := kd_r kbX9_remove ki_6 rfl
theorem dX9_remove_39 : decode cX9_remove 39 = .ok (.iload_n 2, 1) := kd_r kbX9_remove ki_11 rfl
theorem dX9_remove_40 : decode cX9_remove 40 = .ok (.iconst 1, 1) := kd_r kbX9_remove ki_16 rfl
theorem dX9_remove_41 : decode cX9_remove 41 = .ok (.isub, 1) := kd_r kbX9_remove ki_50 rfl
theorem dX9_remove_42 : decode cX9_remove 42 = .ok (.aload_n 0, 1) := kd_r kbX9_remove ki_0 rfl
theorem dX9_remove_43 : decode cX9_remove 43 = .ok (.getfield 15, 3) := kd_r kbX9_remove ki_6 rfl
theorem dX9_remove_46 : decode cX9_remove 46 = .ok (.iload_n 2, 1) := kd_r kbX9_remove ki_11 rfl
theorem dX9_remove_47 : decode cX9_remove 47 = .ok (.iaload, 1) := kd_r kbX9_remove ki_14 rfl
theorem dX9_remove_48 : decode cX9_remove 48 = .ok (.iastore, 1) := kd_r kbX9_remove ki_28 rfl
theorem dX9_remove_49 : decode cX9_remove 49 = .ok (.aload_n 0, 1) := kd_r kbX9_remove ki_0 rfl
theorem dX9_remove_50 : decode cX9_remove 50 = .ok (.getfield 18, 3) := kd_r kbX9_remove ki_87 rfl
theorem dX9_remove_53 : decode cX9_remove 53 = .ok (.iload_n 2, 1) := kd_r kbX9_remove ki_11 rfl
theorem dX9_remove_54 : decode cX9_remove 54 = .ok (.iconst 1, 1) := kd_r kbX9_remove ki_16 rfl
theorem dX9_remove_55 : decode cX9_remove 55 = .ok (.isub, 1) := kd_r kbX9_remove ki_50 rfl
theorem dX9_remove_56 : decode cX9_remove 56 = .ok (.aload_n 0, 1) := kd_r kbX9_remove ki_0 rfl
theorem dX9_remove_57 : decode cX9_remove 57 = .ok (.getfield 18, 3) := kd_r kbX9_remove ki_87 rfl
theorem dX9_remove_60 : decode cX9_remove 60 = .ok (.iload_n 2, 1) := kd_r kbX9_remove ki_11 rfl
theorem dX9_remove_61 : decode cX9_remove 61 = .ok (.iaload, 1) := kd_r kbX9_remove ki_14 rfl
theorem dX9_remove_62 : decode cX9_remove 62 = .ok (.iastore, 1) := kd_r kbX9_remove ki_28 rfl
theorem dX9_remove_63 : decode cX9_remove 63 = .ok (.iinc 2 1, 3) := kd_r kbX9_remove ki_37 rfl
theorem dX9_remove_66 : decode cX9_remove 66 = .ok (.goto (-53), 3) := kd_r kbX9_remove ki_445 rfl
theorem dX9_remove_69 : decode cX9_remove 69 = .ok (.aload_n 0, 1) := kd_r kbX9_remove ki_0 rfl
theorem dX9_remove_70 : decode cX9_remove 70 = .ok (.dup, 1) := kd_r kbX9_remove ki_29 rfl
theorem dX9_remove_71 : decode cX9_remove 71 = .ok (.getfield 21, 3) := kd_r kbX9_remove ki_94 rfl
theorem dX9_remove_74 : decode cX9_remove 74 = .ok (.iconst 1, 1) := kd_r kbX9_remove ki_16 rfl
theorem dX9_remove_75 : decode cX9_remove 75 = .ok (.isub, 1) := kd_r kbX9_remove ki_50 rfl
theorem dX9_remove_76 : decode cX9_remove 76 = .ok (.putfield 21, 3) := kd_r kbX9_remove ki_75 rfl
theorem dX9_remove_79 : decode cX9_remove 79 = .ok (.return_, 1) := kd_r kbX9_remove ki_5 rfl
theorem dX10_init_0 : decode cX10_init 0 = .ok (.aload_n 0, 1) := kd_r kbX10_init ki_0 rfl
theorem dX10_init_1 : decode cX10_init 1 = .ok (.invokespecial 1, 3) := kd_r kbX10_init ki_43 rfl
theorem dX10_init_4 : decode cX10_init 4 = .ok (.aload_n 0, 1) := kd_r kbX10_init ki_0 rfl
theorem dX10_init_5 : decode cX10_init 5 = .ok (.bipush 120, 2) := kd_r kbX10_init ki_446 rfl
theorem dX10_init_7 : decode cX10_init 7 = .ok (.newarray .int, 2) := kd_r kbX10_init ki_3 rfl
theorem dX10_init_9 : decode cX10_init 9 = .ok (.putfield 9, 3) := kd_r kbX10_init ki_4 rfl
theorem dX10_init_12 : decode cX10_init 12 = .ok (.return_, 1) := kd_r kbX10_init ki_5 rfl
theorem dX10_size_0 : decode cX10_size 0 = .ok (.aload_n 0, 1) := kd_r kbX10_size ki_0 rfl
theorem dX10_size_1 : decode cX10_size 1 = .ok (.getfield 13, 3) := kd_r kbX10_size ki_53 rfl
theorem dX10_size_4 : decode cX10_size 4 = .ok (.ireturn, 1) := kd_r kbX10_size ki_7 rfl
theorem dX10_hasRoomFor_0 : decode cX10_hasRoomFor 0 = .ok (.aload_n 0, 1) := kd_r kbX10_hasRoomFor ki_0 rfl
theorem dX10_hasRoomFor_1 : decode cX10_hasRoomFor 1 = .ok (.getfield 13, 3) := kd_r kbX10_hasRoomFor ki_53 rfl
theorem dX10_hasRoomFor_4 : decode cX10_hasRoomFor 4 = .ok (.iload_n 1, 1) := kd_r kbX10_hasRoomFor ki_8 rfl
theorem dX10_hasRoomFor_5 : decode cX10_hasRoomFor 5 = .ok (.iadd, 1) := kd_r kbX10_hasRoomFor ki_30 rfl
theorem dX10_hasRoomFor_6 : decode cX10_hasRoomFor 6 = .ok (.bipush 120, 2) := kd_r kbX10_hasRoomFor ki_446 rfl
theorem dX10_hasRoomFor_8 : decode cX10_hasRoomFor 8 = .ok (.if_icmp .gt 7, 3) := kd_r kbX10_hasRoomFor ki_191 rfl
theorem dX10_hasRoomFor_11 : decode cX10_hasRoomFor 11 = .ok (.iconst 1, 1) := kd_r kbX10_hasRoomFor ki_16 rfl
theorem dX10_hasRoomFor_12 : decode cX10_hasRoomFor 12 = .ok (.goto 4, 3) := kd_r kbX10_hasRoomFor ki_19 rfl
theorem dX10_hasRoomFor_15 : decode cX10_hasRoomFor 15 = .ok (.iconst 0, 1) := kd_r kbX10_hasRoomFor ki_20 rfl
theorem dX10_hasRoomFor_16 : decode cX10_hasRoomFor 16 = .ok (.ireturn, 1) := kd_r kbX10_hasRoomFor ki_7 rfl
theorem dX10_take_0 : decode cX10_take 0 = .ok (.iconst 0, 1) := kd_r kbX10_take ki_20 rfl
theorem dX10_take_1 : decode cX10_take 1 = .ok (.istore_n 3, 1) := kd_r kbX10_take ki_108 rfl
theorem dX10_take_2 : decode cX10_take 2 = .ok (.iload_n 3, 1) := kd_r kbX10_take ki_55 rfl
theorem dX10_take_3 : decode cX10_take 3 = .ok (.iload_n 1, 1) := kd_r kbX10_take ki_8 rfl
theorem dX10_take_4 : decode cX10_take 4 = .ok (.if_icmp .ge 44, 3) := kd_r kbX10_take ki_447 rfl
theorem dX10_take_7 : decode cX10_take 7 = .ok (.aload_n 0, 1) := kd_r kbX10_take ki_0 rfl
theorem dX10_take_8 : decode cX10_take 8 = .ok (.getfield 13, 3) := kd_r kbX10_take ki_53 rfl
theorem dX10_take_11 : decode cX10_take 11 = .ok (.bipush 120, 2) := kd_r kbX10_take ki_446 rfl
theorem dX10_take_13 : decode cX10_take 13 = .ok (.if_icmp .ge 35, 3) := kd_r kbX10_take ki_448 rfl
theorem dX10_take_16 : decode cX10_take 16 = .ok (.aload_n 0, 1) := kd_r kbX10_take ki_0 rfl
theorem dX10_take_17 : decode cX10_take 17 = .ok (.getfield 9, 3) := kd_r kbX10_take ki_13 rfl
theorem dX10_take_20 : decode cX10_take 20 = .ok (.aload_n 0, 1) := kd_r kbX10_take ki_0 rfl
theorem dX10_take_21 : decode cX10_take 21 = .ok (.dup, 1) := kd_r kbX10_take ki_29 rfl
theorem dX10_take_22 : decode cX10_take 22 = .ok (.getfield 13, 3) := kd_r kbX10_take ki_53 rfl
theorem dX10_take_25 : decode cX10_take 25 = .ok (.dup_x1, 1) := kd_r kbX10_take ki_98 rfl
theorem dX10_take_26 : decode cX10_take 26 = .ok (.iconst 1, 1) := kd_r kbX10_take ki_16 rfl
theorem dX10_take_27 : decode cX10_take 27 = .ok (.iadd, 1) := kd_r kbX10_take ki_30 rfl
theorem dX10_take_28 : decode cX10_take 28 = .ok (.putfield 13, 3) := kd_r kbX10_take ki_45 rfl
theorem dX10_take_31 : decode cX10_take 31 = .ok (.iload_n 2, 1) := kd_r kbX10_take ki_11 rfl
theorem dX10_take_32 : decode cX10_take 32 = .ok (.bipush 8, 2) := kd_r kbX10_take ki_74 rfl
theorem dX10_take_34 : decode cX10_take 34 = .ok (.iload_n 3, 1) := kd_r kbX10_take ki_55 rfl
theorem dX10_take_35 : decode cX10_take 35 = .ok (.imul, 1) := kd_r kbX10_take ki_114 rfl
theorem dX10_take_36 : decode cX10_take 36 = .ok (.iushr, 1) := kd_r kbX10_take ki_15 rfl
theorem dX10_take_37 : decode cX10_take 37 = .ok (.sipush 255, 3) := kd_r kbX10_take ki_449 rfl
theorem dX10_take_40 : decode cX10_take 40 = .ok (.iand, 1) := kd_r kbX10_take ki_17 rfl
theorem dX10_take_41 : decode cX10_take 41 = .ok (.iastore, 1) := kd_r kbX10_take ki_28 rfl
theorem dX10_take_42 : decode cX10_take 42 = .ok (.iinc 3 1, 3) := kd_r kbX10_take ki_116 rfl
theorem dX10_take_45 : decode cX10_take 45 = .ok (.goto (-43), 3) := kd_r kbX10_take ki_450 rfl
theorem dX10_take_48 : decode cX10_take 48 = .ok (.aload_n 0, 1) := kd_r kbX10_take ki_0 rfl
theorem dX10_take_49 : decode cX10_take 49 = .ok (.getfield 13, 3) := kd_r kbX10_take ki_53 rfl
theorem dX10_take_52 : decode cX10_take 52 = .ok (.ireturn, 1) := kd_r kbX10_take ki_7 rfl
theorem dX10_clear_0 : decode cX10_clear 0 = .ok (.aload_n 0, 1) := kd_r kbX10_clear ki_0 rfl
theorem dX10_clear_1 : decode cX10_clear 1 = .ok (.iconst 0, 1) := kd_r kbX10_clear ki_20 rfl
theorem dX10_clear_2 : decode cX10_clear 2 = .ok (.putfield 13, 3) := kd_r kbX10_clear ki_45 rfl
theorem dX10_clear_5 : decode cX10_clear 5 = .ok (.return_, 1) := kd_r kbX10_clear ki_5 rfl
set_option maxRecDepth 20000 in
theorem ggX10_readInto_X4_clear : GoodIn wsX10_readInto wsX4_clear := goodIn_r _ [8, 9, 59, 60, 61, 62, 63] rfl (by decide +kernel)
set_option maxRecDepth 20000 in
theorem gX10_readInto_X4_clear : GoodIn wsX10_readInto (wsV RX10 24 RX4 yX4_clear wsX4_clear) := goodIn_app (goodIn_of _ (by decide +kernel)) ggX10_readInto_X4_clear
set_option maxRecDepth 20000 in
theorem ggX10_readInto_X10_readLine : GoodIn wsX10_readInto wsX10_readLine := goodIn_r _ [14, 1, 2, 15, 16, 17, 13, 18, 19, 20, 21, 22, 23, 24, 25, 3, 26, 27, 28, 29, 30, 31, 32, 7, 33, 9, 34, 35, 36, 37, 38, 39, 40, 41, 42, 43, 44, 45, 46, 47, 48, 49, 50, 51, 52, 53, 54, 55, 56, 57, 58, 59, 60, 61, 62, 63] rfl (by decide +kernel)
set_option maxRecDepth 20000 in
theorem gX10_readInto_X10_readLine : GoodIn wsX10_readInto (wsV RX10 29 RX10 yX10_readLine wsX10_readLine) := goodIn_app (goodIn_of _ (by decide +kernel)) ggX10_readInto_X10_readLine
set_option maxRecDepth 20000 in
theorem ggX10_readInto_X10_next : GoodIn wsX10_readInto wsX10_next := goodIn_r _ [25, 1, 3, 26, 55, 56, 57, 58] rfl (by decide +kernel)
set_option maxRecDepth 20000 in
theorem gX10_readInto_X10_next : GoodIn wsX10_readInto (wsV RX10 33 RX10 yX10_next wsX10_next) := goodIn_app (goodIn_of _ (by decide +kernel)) ggX10_readInto_X10_next
theorem dX10_readInto_0 : decode cX10_readInto 0 = .ok (.aload_n 0, 1) := kd_r kbX10_readInto ki_0 rfl
theorem dX10_readInto_1 : decode cX10_readInto 1 = .ok (.iconst 0, 1) := kd_r kbX10_readInto ki_20 rfl
theorem dX10_readInto_2 : decode cX10_readInto 2 = .ok (.putfield 17, 3) := kd_r kbX10_readInto ki_451 rfl
theorem dX10_readInto_5 : decode cX10_readInto 5 = .ok (.aload_n 0, 1) := kd_r kbX10_readInto ki_0 rfl
theorem dX10_readInto_6 : decode cX10_readInto 6 = .ok (.aload_n 1, 1) := kd_r kbX10_readInto ki_69 rfl
theorem dX10_readInto_7 : decode cX10_readInto 7 = .ok (.putfield 20, 3) := kd_r kbX10_readInto ki_452 rfl
theorem dX10_readInto_10 : decode cX10_readInto 10 = .ok (.aload_n 0, 1) := kd_r kbX10_readInto ki_0 rfl
theorem dX10_readInto_11 : decode cX10_readInto 11 = .ok (.getfield 20, 3) := kd_r kbX10_readInto ki_453 rfl
theorem dX10_readInto_14 : decode cX10_readInto 14 = .ok (.invokevirtual 24, 3) := kd_r kbX10_readInto ki_454 rfl
theorem dX10_readInto_17 : decode cX10_readInto 17 = .ok (.iconst 0, 1) := kd_r kbX10_readInto ki_20 rfl
theorem dX10_readInto_18 : decode cX10_readInto 18 = .ok (.istore_n 2, 1) := kd_r kbX10_readInto ki_32 rfl
theorem dX10_readInto_19 : decode cX10_readInto 19 = .ok (.iload_n 2, 1) := kd_r kbX10_readInto ki_11 rfl
theorem dX10_readInto_20 : decode cX10_readInto 20 = .ok (.aload_n 0, 1) := kd_r kbX10_readInto ki_0 rfl
theorem dX10_readInto_21 : decode cX10_readInto 21 = .ok (.getfield 13, 3) := kd_r kbX10_readInto ki_53 rfl
theorem dX10_readInto_24 : decode cX10_readInto 24 = .ok (.if_icmp .gt 55, 3) := kd_r kbX10_readInto ki_455 rfl
theorem dX10_readInto_27 : decode cX10_readInto 27 = .ok (.aload_n 0, 1) := kd_r kbX10_readInto ki_0 rfl
theorem dX10_readInto_28 : decode cX10_readInto 28 = .ok (.invokevirtual 29, 3) := kd_r kbX10_readInto ki_52 rfl
theorem dX10_readInto_31 : decode cX10_readInto 31 = .ok (.ifCond .ne 8, 3) := kd_r kbX10_readInto ki_456 rfl
theorem dX10_readInto_34 : decode cX10_readInto 34 = .ok (.aload_n 0, 1) := kd_r kbX10_readInto ki_0 rfl
theorem dX10_readInto_35 : decode cX10_readInto 35 = .ok (.getfield 17, 3) := kd_r kbX10_readInto ki_457 rfl
theorem dX10_readInto_38 : decode cX10_readInto 38 = .ok (.ireturn, 1) := kd_r kbX10_readInto ki_7 rfl
theorem dX10_readInto_39 : decode cX10_readInto 39 = .ok (.aload_n 0, 1) := kd_r kbX10_readInto ki_0 rfl
theorem dX10_readInto_40 : decode cX10_readInto 40 = .ok (.invokevirtual 33, 3) := kd_r kbX10_readInto ki_294 rfl
theorem dX10_readInto_43 : decode cX10_readInto 43 = .ok (.iconst (-1), 1) := kd_r kbX10_readInto ki_99 rfl
theorem dX10_readInto_44 : decode cX10_readInto 44 = .ok (.if_icmp .ne 5, 3) := kd_r kbX10_readInto ki_91 rfl
theorem dX10_readInto_47 : decode cX10_readInto 47 = .ok (.iconst (-1), 1) := kd_r kbX10_readInto ki_99 rfl
theorem dX10_readInto_48 : decode cX10_readInto 48 = .ok (.ireturn, 1) := kd_r kbX10_readInto ki_7 rfl
theorem dX10_readInto_49 : decode cX10_readInto 49 = .ok (.aload_n 0, 1) := kd_r kbX10_readInto ki_0 rfl
theorem dX10_readInto_50 : decode cX10_readInto 50 = .ok (.invokevirtual 33, 3) := kd_r kbX10_readInto ki_294 rfl
theorem dX10_readInto_53 : decode cX10_readInto 53 = .ok (.bipush 59, 2) := kd_r kbX10_readInto ki_253 rfl
theorem dX10_readInto_55 : decode cX10_readInto 55 = .ok (.if_icmp .eq 8, 3) := kd_r kbX10_readInto ki_458 rfl
theorem dX10_readInto_58 : decode cX10_readInto 58 = .ok (.aload_n 0, 1) := kd_r kbX10_readInto ki_0 rfl
theorem dX10_readInto_59 : decode cX10_readInto 59 = .ok (.getfield 17, 3) := kd_r kbX10_readInto ki_457 rfl
theorem dX10_readInto_62 : decode cX10_readInto 62 = .ok (.ireturn, 1) := kd_r kbX10_readInto ki_7 rfl
theorem dX10_readInto_63 : decode cX10_readInto 63 = .ok (.aload_n 0, 1) := kd_r kbX10_readInto ki_0 rfl
theorem dX10_readInto_64 : decode cX10_readInto 64 = .ok (.dup, 1) := kd_r kbX10_readInto ki_29 rfl
theorem dX10_readInto_65 : decode cX10_readInto 65 = .ok (.getfield 17, 3) := kd_r kbX10_readInto ki_457 rfl
theorem dX10_readInto_68 : decode cX10_readInto 68 = .ok (.iconst 1, 1) := kd_r kbX10_readInto ki_16 rfl
theorem dX10_readInto_69 : decode cX10_readInto 69 = .ok (.iadd, 1) := kd_r kbX10_readInto ki_30 rfl
theorem dX10_readInto_70 : decode cX10_readInto 70 = .ok (.putfield 17, 3) := kd_r kbX10_readInto ki_451 rfl
theorem dX10_readInto_73 : decode cX10_readInto 73 = .ok (.iinc 2 1, 3) := kd_r kbX10_readInto ki_37 rfl
theorem dX10_readInto_76 : decode cX10_readInto 76 = .ok (.goto (-57), 3) := kd_r kbX10_readInto ki_443 rfl
theorem dX10_readInto_79 : decode cX10_readInto 79 = .ok (.aload_n 0, 1) := kd_r kbX10_readInto ki_0 rfl
theorem dX10_readInto_80 : decode cX10_readInto 80 = .ok (.getfield 17, 3) := kd_r kbX10_readInto ki_457 rfl
theorem dX10_readInto_83 : decode cX10_readInto 83 = .ok (.ireturn, 1) := kd_r kbX10_readInto ki_7 rfl
theorem dX10_next_0 : decode cX10_next 0 = .ok (.aload_n 0, 1) := kd_r kbX10_next ki_0 rfl
theorem dX10_next_1 : decode cX10_next 1 = .ok (.getfield 17, 3) := kd_r kbX10_next ki_457 rfl
theorem dX10_next_4 : decode cX10_next 4 = .ok (.ifCond .lt 26, 3) := kd_r kbX10_next ki_296 rfl
theorem dX10_next_7 : decode cX10_next 7 = .ok (.aload_n 0, 1) := kd_r kbX10_next ki_0 rfl
theorem dX10_next_8 : decode cX10_next 8 = .ok (.getfield 17, 3) := kd_r kbX10_next ki_457 rfl
theorem dX10_next_11 : decode cX10_next 11 = .ok (.aload_n 0, 1) := kd_r kbX10_next ki_0 rfl
theorem dX10_next_12 : decode cX10_next 12 = .ok (.getfield 13, 3) := kd_r kbX10_next ki_53 rfl
theorem dX10_next_15 : decode cX10_next 15 = .ok (.if_icmp .ge 15, 3) := kd_r kbX10_next ki_210 rfl
theorem dX10_next_18 : decode cX10_next 18 = .ok (.aload_n 0, 1) := kd_r kbX10_next ki_0 rfl
theorem dX10_next_19 : decode cX10_next 19 = .ok (.getfield 9, 3) := kd_r kbX10_next ki_13 rfl
theorem dX10_next_22 : decode cX10_next 22 = .ok (.aload_n 0, 1) := kd_r kbX10_next ki_0 rfl
theorem dX10_next_23 : decode cX10_next 23 = .ok (.getfield 17, 3) := kd_r kbX10_next ki_457 rfl
theorem dX10_next_26 : decode cX10_next 26 = .ok (.iaload, 1) := kd_r kbX10_next ki_14 rfl
theorem dX10_next_27 : decode cX10_next 27 = .ok (.goto 4, 3) := kd_r kbX10_next ki_19 rfl
theorem dX10_next_30 : decode cX10_next 30 = .ok (.iconst (-1), 1) := kd_r kbX10_next ki_99 rfl
theorem dX10_next_31 : decode cX10_next 31 = .ok (.ireturn, 1) := kd_r kbX10_next ki_7 rfl
set_option maxRecDepth 20000 in
theorem ggX10_readLine_X10_readChain : GoodIn wsX10_readLine wsX10_readChain := goodIn_r _ [7, 1, 2, 8, 9, 10, 6, 3, 4, 5, 11, 12, 13, 14, 15, 16, 17, 18, 19, 20, 21, 22, 23, 24, 25, 26, 27, 28, 29, 30, 31, 32, 33, 34, 35, 36, 37, 38, 39, 40, 41, 42, 43, 44, 45, 46, 47, 48, 49, 50, 51, 52, 53, 54, 55] rfl (by decide +kernel)
set_option maxRecDepth 20000 in
theorem gX10_readLine_X10_readChain : GoodIn wsX10_readLine (wsV RX10 37 RX10 yX10_readChain wsX10_readChain) := goodIn_app (goodIn_of _ (by decide +kernel)) ggX10_readLine_X10_readChain
set_option maxRecDepth 20000 in
theorem ggX10_readLine_X10_next : GoodIn wsX10_readLine wsX10_next := goodIn_r _ [14, 1, 15, 16, 47, 48, 49, 50] rfl (by decide +kernel)
set_option maxRecDepth 20000 in
theorem gX10_readLine_X10_next : GoodIn wsX10_readLine (wsV RX10 33 RX10 yX10_next wsX10_next) := goodIn_app (goodIn_of _ (by decide +kernel)) ggX10_readLine_X10_next
set_option maxRecDepth 20000 in
theorem ggX10_readLine_X4_append : GoodIn wsX10_readLine wsX4_append := goodIn_r _ [24, 25, 26, 51, 52, 53, 54, 55] rfl (by decide +kernel)
set_option maxRecDepth 20000 in
theorem gX10_readLine_X4_append : GoodIn wsX10_readLine (wsV RX10 41 RX4 yX4_append wsX4_append) := goodIn_app (goodIn_of _ (by decide +kernel)) ggX10_readLine_X4_append
theorem dX10_readLine_0 : decode cX10_readLine 0 = .ok (.aload_n 0, 1) := kd_r kbX10_readLine ki_0 rfl
theorem dX10_readLine_1 : decode cX10_readLine 1 = .ok (.iconst 0, 1) := kd_r kbX10_readLine ki_20 rfl
theorem dX10_readLine_2 : decode cX10_readLine 2 = .ok (.iconst 0, 1) := kd_r kbX10_readLine ki_20 rfl
theorem dX10_readLine_3 : decode cX10_readLine 3 = .ok (.invokevirtual 37, 3) := kd_r kbX10_readLine ki_395 rfl
theorem dX10_readLine_6 : decode cX10_readLine 6 = .ok (.ifCond .ne 5, 3) := kd_r kbX10_readLine ki_36 rfl
theorem dX10_readLine_9 : decode cX10_readLine 9 = .ok (.iconst 0, 1) := kd_r kbX10_readLine ki_20 rfl
theorem dX10_readLine_10 : decode cX10_readLine 10 = .ok (.ireturn, 1) := kd_r kbX10_readLine ki_7 rfl
theorem dX10_readLine_11 : decode cX10_readLine 11 = .ok (.aload_n 0, 1) := kd_r kbX10_readLine ki_0 rfl
theorem dX10_readLine_12 : decode cX10_readLine 12 = .ok (.invokevirtual 33, 3) := kd_r kbX10_readLine ki_294 rfl
theorem dX10_readLine_15 : decode cX10_readLine 15 = .ok (.bipush 63, 2) := kd_r kbX10_readLine ki_258 rfl
theorem dX10_readLine_17 : decode cX10_readLine 17 = .ok (.if_icmp .ne 33, 3) := kd_r kbX10_readLine ki_459 rfl
theorem dX10_readLine_20 : decode cX10_readLine 20 = .ok (.aload_n 0, 1) := kd_r kbX10_readLine ki_0 rfl
theorem dX10_readLine_21 : decode cX10_readLine 21 = .ok (.dup, 1) := kd_r kbX10_readLine ki_29 rfl
theorem dX10_readLine_22 : decode cX10_readLine 22 = .ok (.getfield 17, 3) := kd_r kbX10_readLine ki_457 rfl
theorem dX10_readLine_25 : decode cX10_readLine 25 = .ok (.iconst 1, 1) := kd_r kbX10_readLine ki_16 rfl
theorem dX10_readLine_26 : decode cX10_readLine 26 = .ok (.iadd, 1) := kd_r kbX10_readLine ki_30 rfl
theorem dX10_readLine_27 : decode cX10_readLine 27 = .ok (.putfield 17, 3) := kd_r kbX10_readLine ki_451 rfl
theorem dX10_readLine_30 : decode cX10_readLine 30 = .ok (.aload_n 0, 1) := kd_r kbX10_readLine ki_0 rfl
theorem dX10_readLine_31 : decode cX10_readLine 31 = .ok (.getfield 20, 3) := kd_r kbX10_readLine ki_453 rfl
theorem dX10_readLine_34 : decode cX10_readLine 34 = .ok (.bipush 63, 2) := kd_r kbX10_readLine ki_258 rfl
theorem dX10_readLine_36 : decode cX10_readLine 36 = .ok (.invokevirtual 41, 3) := kd_r kbX10_readLine ki_419 rfl
theorem dX10_readLine_39 : decode cX10_readLine 39 = .ok (.aload_n 0, 1) := kd_r kbX10_readLine ki_0 rfl
theorem dX10_readLine_40 : decode cX10_readLine 40 = .ok (.iconst 0, 1) := kd_r kbX10_readLine ki_20 rfl
theorem dX10_readLine_41 : decode cX10_readLine 41 = .ok (.iconst 0, 1) := kd_r kbX10_readLine ki_20 rfl
theorem dX10_readLine_42 : decode cX10_readLine 42 = .ok (.invokevirtual 37, 3) := kd_r kbX10_readLine ki_395 rfl
theorem dX10_readLine_45 : decode cX10_readLine 45 = .ok (.ifCond .ne 5, 3) := kd_r kbX10_readLine ki_36 rfl
theorem dX10_readLine_48 : decode cX10_readLine 48 = .ok (.iconst 0, 1) := kd_r kbX10_readLine ki_20 rfl
theorem dX10_readLine_49 : decode cX10_readLine 49 = .ok (.ireturn, 1) := kd_r kbX10_readLine ki_7 rfl
theorem dX10_readLine_50 : decode cX10_readLine 50 = .ok (.aload_n 0, 1) := kd_r kbX10_readLine ki_0 rfl
theorem dX10_readLine_51 : decode cX10_readLine 51 = .ok (.getfield 20, 3) := kd_r kbX10_readLine ki_453 rfl
theorem dX10_readLine_54 : decode cX10_readLine 54 = .ok (.bipush 59, 2) := kd_r kbX10_readLine ki_253 rfl
theorem dX10_readLine_56 : decode cX10_readLine 56 = .ok (.invokevirtual 41, 3) := kd_r kbX10_readLine ki_419 rfl
theorem dX10_readLine_59 : decode cX10_readLine 59 = .ok (.iconst 1, 1) := kd_r kbX10_readLine ki_16 rfl
theorem dX10_readLine_60 : decode cX10_readLine 60 = .ok (.ireturn, 1) := kd_r kbX10_readLine ki_7 rfl
set_option maxRecDepth 20000 in
theorem ggX10_readChain_X10_readOperand : GoodIn wsX10_readChain wsX10_readOperand := goodIn_r _ [27, 1, 2, 10, 11, 12, 6, 13, 14, 15, 28, 29, 30, 31, 32, 33, 34, 19, 20, 21, 22, 23, 24, 25, 35, 36, 37, 38, 39, 40, 41, 42, 43, 44, 0, 3, 4, 5, 7, 8, 9, 16, 17, 18, 26, 45, 46, 47, 48, 49, 50, 51, 52, 53, 54] rfl (by decide +kernel)
set_option maxRecDepth 20000 in
theorem gX10_readChain_X10_readOperand : GoodIn wsX10_readChain (wsV RX10 45 RX10 yX10_readOperand wsX10_readOperand) := goodIn_app (goodIn_of _ (by decide +kernel)) ggX10_readChain_X10_readOperand
set_option maxRecDepth 20000 in
theorem ggX10_readChain_X10_readChain : GoodIn wsX10_readChain wsX10_readChain := goodIn_r _ [0, 1, 2, 3, 4, 5, 6, 7, 8, 9, 10, 11, 12, 13, 14, 15, 16, 17, 18, 19, 20, 21, 22, 23, 24, 25, 26, 27, 28, 29, 30, 31, 32, 33, 34, 35, 36, 37, 38, 39, 40, 41, 42, 43, 44, 45, 46, 47, 48, 49, 50, 51, 52, 53, 54] rfl (by decide +kernel)
set_option maxRecDepth 20000 in
theorem gX10_readChain_X10_readChain : GoodIn wsX10_readChain (wsV RX10 37 RX10 yX10_readChain wsX10_readChain) := goodIn_app (goodIn_of _ (by decide +kernel)) ggX10_readChain_X10_readChain
set_option maxRecDepth 20000 in
theorem ggX10_readChain_X10_next : GoodIn wsX10_readChain wsX10_next := goodIn_r _ [13, 1, 14, 15, 46, 47, 48, 49] rfl (by decide +kernel)
set_option maxRecDepth 20000 in
theorem gX10_readChain_X10_next : GoodIn wsX10_readChain (wsV RX10 33 RX10 yX10_next wsX10_next) := goodIn_app (goodIn_of _ (by decide +kernel)) ggX10_readChain_X10_next
set_option maxRecDepth 20000 in
theorem ggX10_readChain_X10_joins : GoodIn wsX10_readChain wsX10_joins := goodIn_r _ [18] rfl (by decide +kernel)
set_option maxRecDepth 20000 in
theorem gX10_readChain_X10_joins : GoodIn wsX10_readChain (va_wsS RX10 49 yX10_joins wsX10_joins) := goodIn_app (goodIn_of _ (by decide +kernel)) ggX10_readChain_X10_joins
set_option maxRecDepth 20000 in
theorem ggX10_readChain_X4_append : GoodIn wsX10_readChain wsX4_append := goodIn_r _ [23, 24, 25, 50, 51, 52, 53, 54] rfl (by decide +kernel)
set_option maxRecDepth 20000 in
theorem gX10_readChain_X4_append : GoodIn wsX10_readChain (wsV RX10 41 RX4 yX4_append wsX4_append) := goodIn_app (goodIn_of _ (by decide +kernel)) ggX10_readChain_X4_append
theorem dX10_readChain_0 : decode cX10_readChain 0 = .ok (.iload_n 1, 1) := kd_r kbX10_readChain ki_8 rfl
theorem dX10_readChain_1 : decode cX10_readChain 1 = .ok (.iconst 5, 1) := kd_r kbX10_readChain ki_79 rfl
theorem dX10_readChain_2 : decode cX10_readChain 2 = .ok (.if_icmp .lt 9, 3) := kd_r kbX10_readChain ki_166 rfl
theorem dX10_readChain_5 : decode cX10_readChain 5 = .ok (.aload_n 0, 1) := kd_r kbX10_readChain ki_0 rfl
theorem dX10_readChain_6 : decode cX10_readChain 6 = .ok (.iload_n 2, 1) := kd_r kbX10_readChain ki_11 rfl
theorem dX10_readChain_7 : decode cX10_readChain 7 = .ok (.invokevirtual 45, 3) := kd_r kbX10_readChain ki_84 rfl
theorem dX10_readChain_10 : decode cX10_readChain 10 = .ok (.ireturn, 1) := kd_r kbX10_readChain ki_7 rfl
theorem dX10_readChain_11 : decode cX10_readChain 11 = .ok (.aload_n 0, 1) := kd_r kbX10_readChain ki_0 rfl
theorem dX10_readChain_12 : decode cX10_readChain 12 = .ok (.iload_n 1, 1) := kd_r kbX10_readChain ki_8 rfl
theorem dX10_readChain_13 : decode cX10_readChain 13 = .ok (.iconst 1, 1) := kd_r kbX10_readChain ki_16 rfl
theorem dX10_readChain_14 : decode cX10_readChain 14 = .ok (.iadd, 1) := kd_r kbX10_readChain ki_30 rfl
theorem dX10_readChain_15 : decode cX10_readChain 15 = .ok (.iload_n 2, 1) := kd_r kbX10_readChain ki_11 rfl
theorem dX10_readChain_16 : decode cX10_readChain 16 = .ok (.invokevirtual 37, 3) := kd_r kbX10_readChain ki_395 rfl
theorem dX10_readChain_19 : decode cX10_readChain 19 = .ok (.ifCond .ne 5, 3) := kd_r kbX10_readChain ki_36 rfl
theorem dX10_readChain_22 : decode cX10_readChain 22 = .ok (.iconst 0, 1) := kd_r kbX10_readChain ki_20 rfl
theorem dX10_readChain_23 : decode cX10_readChain 23 = .ok (.ireturn, 1) := kd_r kbX10_readChain ki_7 rfl
theorem dX10_readChain_24 : decode cX10_readChain 24 = .ok (.iconst 0, 1) := kd_r kbX10_readChain ki_20 rfl
theorem dX10_readChain_25 : decode cX10_readChain 25 = .ok (.istore_n 3, 1) := kd_r kbX10_readChain ki_108 rfl
theorem dX10_readChain_26 : decode cX10_readChain 26 = .ok (.iload_n 3, 1) := kd_r kbX10_readChain ki_55 rfl
theorem dX10_readChain_27 : decode cX10_readChain 27 = .ok (.bipush 120, 2) := kd_r kbX10_readChain ki_446 rfl
theorem dX10_readChain_29 : decode cX10_readChain 29 = .ok (.if_icmp .ge 65, 3) := kd_r kbX10_readChain ki_61 rfl
theorem dX10_readChain_32 : decode cX10_readChain 32 = .ok (.iload_n 1, 1) := kd_r kbX10_readChain ki_8 rfl
theorem dX10_readChain_33 : decode cX10_readChain 33 = .ok (.aload_n 0, 1) := kd_r kbX10_readChain ki_0 rfl
theorem dX10_readChain_34 : decode cX10_readChain 34 = .ok (.invokevirtual 33, 3) := kd_r kbX10_readChain ki_294 rfl
theorem dX10_readChain_37 : decode cX10_readChain 37 = .ok (.invokestatic 49, 3) := kd_r kbX10_readChain ki_460 rfl
theorem dX10_readChain_40 : decode cX10_readChain 40 = .ok (.ifCond .eq 54, 3) := kd_r kbX10_readChain ki_461 rfl
theorem dX10_readChain_43 : decode cX10_readChain 43 = .ok (.aload_n 0, 1) := kd_r kbX10_readChain ki_0 rfl
theorem dX10_readChain_44 : decode cX10_readChain 44 = .ok (.invokevirtual 33, 3) := kd_r kbX10_readChain ki_294 rfl
theorem dX10_readChain_47 : decode cX10_readChain 47 = .ok (.istore 4, 2) := kd_r kbX10_readChain ki_129 rfl
theorem dX10_readChain_49 : decode cX10_readChain 49 = .ok (.aload_n 0, 1) := kd_r kbX10_readChain ki_0 rfl
theorem dX10_readChain_50 : decode cX10_readChain 50 = .ok (.dup, 1) := kd_r kbX10_readChain ki_29 rfl
theorem dX10_readChain_51 : decode cX10_readChain 51 = .ok (.getfield 17, 3) := kd_r kbX10_readChain ki_457 rfl
theorem dX10_readChain_54 : decode cX10_readChain 54 = .ok (.iconst 1, 1) := kd_r kbX10_readChain ki_16 rfl
theorem dX10_readChain_55 : decode cX10_readChain 55 = .ok (.iadd, 1) := kd_r kbX10_readChain ki_30 rfl
theorem dX10_readChain_56 : decode cX10_readChain 56 = .ok (.putfield 17, 3) := kd_r kbX10_readChain ki_451 rfl
theorem dX10_readChain_59 : decode cX10_readChain 59 = .ok (.aload_n 0, 1) := kd_r kbX10_readChain ki_0 rfl
theorem dX10_readChain_60 : decode cX10_readChain 60 = .ok (.iload_n 1, 1) := kd_r kbX10_readChain ki_8 rfl
theorem dX10_readChain_61 : decode cX10_readChain 61 = .ok (.iconst 1, 1) := kd_r kbX10_readChain ki_16 rfl
theorem dX10_readChain_62 : decode cX10_readChain 62 = .ok (.iadd, 1) := kd_r kbX10_readChain ki_30 rfl
theorem dX10_readChain_63 : decode cX10_readChain 63 = .ok (.iload_n 2, 1) := kd_r kbX10_readChain ki_11 rfl
theorem dX10_readChain_64 : decode cX10_readChain 64 = .ok (.invokevirtual 37, 3) := kd_r kbX10_readChain ki_395 rfl
theorem dX10_readChain_67 : decode cX10_readChain 67 = .ok (.ifCond .ne 5, 3) := kd_r kbX10_readChain ki_36 rfl
theorem dX10_readChain_70 : decode cX10_readChain 70 = .ok (.iconst 0, 1) := kd_r kbX10_readChain ki_20 rfl
theorem dX10_readChain_71 : decode cX10_readChain 71 = .ok (.ireturn, 1) := kd_r kbX10_readChain ki_7 rfl
theorem dX10_readChain_72 : decode cX10_readChain 72 = .ok (.aload_n 0, 1) := kd_r kbX10_readChain ki_0 rfl
theorem dX10_readChain_73 : decode cX10_readChain 73 = .ok (.getfield 20, 3) := kd_r kbX10_readChain ki_453 rfl
theorem dX10_readChain_76 : decode cX10_readChain 76 = .ok (.iload 4, 2) := kd_r kbX10_readChain ki_57 rfl
theorem dX10_readChain_78 : decode cX10_readChain 78 = .ok (.invokevirtual 41, 3) := kd_r kbX10_readChain ki_419 rfl
theorem dX10_readChain_81 : decode cX10_readChain 81 = .ok (.iload_n 1, 1) := kd_r kbX10_readChain ki_8 rfl
theorem dX10_readChain_82 : decode cX10_readChain 82 = .ok (.iconst 2, 1) := kd_r kbX10_readChain ki_244 rfl
theorem dX10_readChain_83 : decode cX10_readChain 83 = .ok (.if_icmp .ne 5, 3) := kd_r kbX10_readChain ki_91 rfl
theorem dX10_readChain_86 : decode cX10_readChain 86 = .ok (.iconst 1, 1) := kd_r kbX10_readChain ki_16 rfl
theorem dX10_readChain_87 : decode cX10_readChain 87 = .ok (.ireturn, 1) := kd_r kbX10_readChain ki_7 rfl
theorem dX10_readChain_88 : decode cX10_readChain 88 = .ok (.iinc 3 1, 3) := kd_r kbX10_readChain ki_116 rfl
theorem dX10_readChain_91 : decode cX10_readChain 91 = .ok (.goto (-65), 3) := kd_r kbX10_readChain ki_63 rfl
theorem dX10_readChain_94 : decode cX10_readChain 94 = .ok (.iconst 1, 1) := kd_r kbX10_readChain ki_16 rfl
theorem dX10_readChain_95 : decode cX10_readChain 95 = .ok (.ireturn, 1) := kd_r kbX10_readChain ki_7 rfl
theorem dX10_joins_0 : decode cX10_joins 0 = .ok (.iload_n 0, 1) := kd_r kbX10_joins ki_40 rfl
theorem dX10_joins_1 : decode cX10_joins 1 = .ok (.tableswitch 97 0 3 #[31, 43, 55, 79], 31) := by decide +kernel
theorem dX10_joins_32 : decode cX10_joins 32 = .ok (.iload_n 1, 1) := kd_r kbX10_joins ki_8 rfl
theorem dX10_joins_33 : decode cX10_joins 33 = .ok (.bipush 124, 2) := kd_r kbX10_joins ki_462 rfl
theorem dX10_joins_35 : decode cX10_joins 35 = .ok (.if_icmp .ne 7, 3) := kd_r kbX10_joins ki_280 rfl
theorem dX10_joins_38 : decode cX10_joins 38 = .ok (.iconst 1, 1) := kd_r kbX10_joins ki_16 rfl
theorem dX10_joins_39 : decode cX10_joins 39 = .ok (.goto 4, 3) := kd_r kbX10_joins ki_19 rfl
theorem dX10_joins_42 : decode cX10_joins 42 = .ok (.iconst 0, 1) := kd_r kbX10_joins ki_20 rfl
theorem dX10_joins_43 : decode cX10_joins 43 = .ok (.ireturn, 1) := kd_r kbX10_joins ki_7 rfl
theorem dX10_joins_44 : decode cX10_joins 44 = .ok (.iload_n 1, 1) := kd_r kbX10_joins ki_8 rfl
theorem dX10_joins_45 : decode cX10_joins 45 = .ok (.bipush 38, 2) := kd_r kbX10_joins ki_463 rfl
theorem dX10_joins_47 : decode cX10_joins 47 = .ok (.if_icmp .ne 7, 3) := kd_r kbX10_joins ki_280 rfl
theorem dX10_joins_50 : decode cX10_joins 50 = .ok (.iconst 1, 1) := kd_r kbX10_joins ki_16 rfl
theorem dX10_joins_51 : decode cX10_joins 51 = .ok (.goto 4, 3) := kd_r kbX10_joins ki_19 rfl
theorem dX10_joins_54 : decode cX10_joins 54 = .ok (.iconst 0, 1) := kd_r kbX10_joins ki_20 rfl
theorem dX10_joins_55 : decode cX10_joins 55 = .ok (.ireturn, 1) := kd_r kbX10_joins ki_7 rfl
theorem dX10_joins_56 : decode cX10_joins 56 = .ok (.iload_n 1, 1) := kd_r kbX10_joins ki_8 rfl
theorem dX10_joins_57 : decode cX10_joins 57 = .ok (.bipush 60, 2) := kd_r kbX10_joins ki_384 rfl
theorem dX10_joins_59 : decode cX10_joins 59 = .ok (.if_icmp .eq 15, 3) := kd_r kbX10_joins ki_464 rfl
theorem dX10_joins_62 : decode cX10_joins 62 = .ok (.iload_n 1, 1) := kd_r kbX10_joins ki_8 rfl
theorem dX10_joins_63 : decode cX10_joins 63 = .ok (.bipush 61, 2) := kd_r kbX10_joins ki_465 rfl
theorem dX10_joins_65 : decode cX10_joins 65 = .ok (.if_icmp .eq 9, 3) := kd_r kbX10_joins ki_348 rfl
theorem dX10_joins_68 : decode cX10_joins 68 = .ok (.iload_n 1, 1) := kd_r kbX10_joins ki_8 rfl
theorem dX10_joins_69 : decode cX10_joins 69 = .ok (.bipush 62, 2) := kd_r kbX10_joins ki_466 rfl
theorem dX10_joins_71 : decode cX10_joins 71 = .ok (.if_icmp .ne 7, 3) := kd_r kbX10_joins ki_280 rfl
theorem dX10_joins_74 : decode cX10_joins 74 = .ok (.iconst 1, 1) := kd_r kbX10_joins ki_16 rfl
theorem dX10_joins_75 : decode cX10_joins 75 = .ok (.goto 4, 3) := kd_r kbX10_joins ki_19 rfl
theorem dX10_joins_78 : decode cX10_joins 78 = .ok (.iconst 0, 1) := kd_r kbX10_joins ki_20 rfl
theorem dX10_joins_79 : decode cX10_joins 79 = .ok (.ireturn, 1) := kd_r kbX10_joins ki_7 rfl
theorem dX10_joins_80 : decode cX10_joins 80 = .ok (.iload_n 1, 1) := kd_r kbX10_joins ki_8 rfl
theorem dX10_joins_81 : decode cX10_joins 81 = .ok (.bipush 43, 2) := kd_r kbX10_joins ki_467 rfl
theorem dX10_joins_83 : decode cX10_joins 83 = .ok (.if_icmp .eq 9, 3) := kd_r kbX10_joins ki_348 rfl
theorem dX10_joins_86 : decode cX10_joins 86 = .ok (.iload_n 1, 1) := kd_r kbX10_joins ki_8 rfl
theorem dX10_joins_87 : decode cX10_joins 87 = .ok (.bipush 45, 2) := kd_r kbX10_joins ki_468 rfl
theorem dX10_joins_89 : decode cX10_joins 89 = .ok (.if_icmp .ne 7, 3) := kd_r kbX10_joins ki_280 rfl
theorem dX10_joins_92 : decode cX10_joins 92 = .ok (.iconst 1, 1) := kd_r kbX10_joins ki_16 rfl
theorem dX10_joins_93 : decode cX10_joins 93 = .ok (.goto 4, 3) := kd_r kbX10_joins ki_19 rfl
theorem dX10_joins_96 : decode cX10_joins 96 = .ok (.iconst 0, 1) := kd_r kbX10_joins ki_20 rfl
theorem dX10_joins_97 : decode cX10_joins 97 = .ok (.ireturn, 1) := kd_r kbX10_joins ki_7 rfl
theorem dX10_joins_98 : decode cX10_joins 98 = .ok (.iload_n 1, 1) := kd_r kbX10_joins ki_8 rfl
theorem dX10_joins_99 : decode cX10_joins 99 = .ok (.bipush 42, 2) := kd_r kbX10_joins ki_469 rfl
theorem dX10_joins_101 : decode cX10_joins 101 = .ok (.if_icmp .eq 15, 3) := kd_r kbX10_joins ki_464 rfl
theorem dX10_joins_104 : decode cX10_joins 104 = .ok (.iload_n 1, 1) := kd_r kbX10_joins ki_8 rfl
theorem dX10_joins_105 : decode cX10_joins 105 = .ok (.bipush 47, 2) := kd_r kbX10_joins ki_470 rfl
theorem dX10_joins_107 : decode cX10_joins 107 = .ok (.if_icmp .eq 9, 3) := kd_r kbX10_joins ki_348 rfl
theorem dX10_joins_110 : decode cX10_joins 110 = .ok (.iload_n 1, 1) := kd_r kbX10_joins ki_8 rfl
theorem dX10_joins_111 : decode cX10_joins 111 = .ok (.bipush 37, 2) := kd_r kbX10_joins ki_471 rfl
theorem dX10_joins_113 : decode cX10_joins 113 = .ok (.if_icmp .ne 7, 3) := kd_r kbX10_joins ki_280 rfl
theorem dX10_joins_116 : decode cX10_joins 116 = .ok (.iconst 1, 1) := kd_r kbX10_joins ki_16 rfl
theorem dX10_joins_117 : decode cX10_joins 117 = .ok (.goto 4, 3) := kd_r kbX10_joins ki_19 rfl
theorem dX10_joins_120 : decode cX10_joins 120 = .ok (.iconst 0, 1) := kd_r kbX10_joins ki_20 rfl
theorem dX10_joins_121 : decode cX10_joins 121 = .ok (.ireturn, 1) := kd_r kbX10_joins ki_7 rfl
set_option maxRecDepth 20000 in
theorem ggX10_readOperand_X10_next : GoodIn wsX10_readOperand wsX10_next := goodIn_r _ [7, 1, 8, 9, 46, 47, 48, 49] rfl (by decide +kernel)
set_option maxRecDepth 20000 in
theorem gX10_readOperand_X10_next : GoodIn wsX10_readOperand (wsV RX10 33 RX10 yX10_next wsX10_next) := goodIn_app (goodIn_of _ (by decide +kernel)) ggX10_readOperand_X10_next
set_option maxRecDepth 20000 in
theorem ggX10_readOperand_X10_isDigit : GoodIn wsX10_readOperand wsX10_isDigit := goodIn_r _ [12] rfl (by decide +kernel)
set_option maxRecDepth 20000 in
theorem gX10_readOperand_X10_isDigit : GoodIn wsX10_readOperand (va_wsS RX10 52 yX10_isDigit wsX10_isDigit) := goodIn_app (goodIn_of _ (by decide +kernel)) ggX10_readOperand_X10_isDigit
set_option maxRecDepth 20000 in
theorem ggX10_readOperand_X10_readNumber : GoodIn wsX10_readOperand wsX10_readNumber := goodIn_r _ [16, 1, 2, 3, 4, 5, 6, 7, 8, 9, 10, 11, 12, 17, 18, 19, 20, 21, 22, 23, 46, 47, 48, 49, 50, 51, 52, 53, 54] rfl (by decide +kernel)
set_option maxRecDepth 20000 in
theorem gX10_readOperand_X10_readNumber : GoodIn wsX10_readOperand (wsV RX10 55 RX10 yX10_readNumber wsX10_readNumber) := goodIn_app (goodIn_of _ (by decide +kernel)) ggX10_readOperand_X10_readNumber
set_option maxRecDepth 20000 in
theorem ggX10_readOperand_X4_nameOf : GoodIn wsX10_readOperand wsX4_nameOf := goodIn_r _ [26, 27] rfl (by decide +kernel)
set_option maxRecDepth 20000 in
theorem gX10_readOperand_X4_nameOf : GoodIn wsX10_readOperand (va_wsS RX10 58 yX4_nameOf wsX4_nameOf) := goodIn_app (goodIn_of _ (by decide +kernel)) ggX10_readOperand_X4_nameOf
set_option maxRecDepth 20000 in
theorem ggX10_readOperand_X4_append : GoodIn wsX10_readOperand wsX4_append := goodIn_r _ [21, 22, 23, 50, 51, 52, 53, 54] rfl (by decide +kernel)
set_option maxRecDepth 20000 in
theorem gX10_readOperand_X4_append : GoodIn wsX10_readOperand (wsV RX10 41 RX4 yX4_append wsX4_append) := goodIn_app (goodIn_of _ (by decide +kernel)) ggX10_readOperand_X4_append
set_option maxRecDepth 20000 in
theorem ggX10_readOperand_X10_readInner : GoodIn wsX10_readOperand wsX10_readInner := goodIn_r _ [44, 1, 38, 39, 40, 6, 3, 4, 5, 7, 8, 9, 34, 2, 35, 36, 37, 41, 42, 43, 17, 18, 19, 20, 21, 22, 23, 0, 10, 11, 12, 13, 14, 15, 16, 24, 25, 26, 27, 28, 29, 30, 31, 32, 33, 45, 46, 47, 48, 49, 50, 51, 52, 53, 54] rfl (by decide +kernel)
set_option maxRecDepth 20000 in
theorem gX10_readOperand_X10_readInner : GoodIn wsX10_readOperand (wsV RX10 62 RX10 yX10_readInner wsX10_readInner) := goodIn_app (goodIn_of _ (by decide +kernel)) ggX10_readOperand_X10_readInner
set_option maxRecDepth 20000 in
theorem ggX10_readOperand_X10_readSigned : GoodIn wsX10_readOperand wsX10_readSigned := goodIn_r _ [45, 2, 35, 36, 37, 6, 17, 18, 19, 20, 21, 22, 23, 34, 1, 38, 39, 40, 3, 4, 5, 7, 8, 9, 41, 42, 43, 44, 0, 10, 11, 12, 13, 14, 15, 16, 24, 25, 26, 27, 28, 29, 30, 31, 32, 33, 46, 47, 48, 49, 50, 51, 52, 53, 54] rfl (by decide +kernel)
set_option maxRecDepth 20000 in
theorem gX10_readOperand_X10_readSigned : GoodIn wsX10_readOperand (wsV RX10 65 RX10 yX10_readSigned wsX10_readSigned) := goodIn_app (goodIn_of _ (by decide +kernel)) ggX10_readOperand_X10_readSigned
theorem dX10_readOperand_0 : decode cX10_readOperand 0 = .ok (.aload_n 0, 1) := kd_r kbX10_readOperand ki_0 rfl
theorem dX10_readOperand_1 : decode cX10_readOperand 1 = .ok (.invokevirtual 33, 3) := kd_r kbX10_readOperand ki_294 rfl
theorem dX10_readOperand_4 : decode cX10_readOperand 4 = .ok (.istore_n 2, 1) := kd_r kbX10_readOperand ki_32 rfl
theorem dX10_readOperand_5 : decode cX10_readOperand 5 = .ok (.iload_n 2, 1) := kd_r kbX10_readOperand ki_11 rfl
theorem dX10_readOperand_6 : decode cX10_readOperand 6 = .ok (.invokestatic 52, 3) := kd_r kbX10_readOperand ki_236 rfl
theorem dX10_readOperand_9 : decode cX10_readOperand 9 = .ok (.ifCond .eq 9, 3) := kd_r kbX10_readOperand ki_472 rfl
theorem dX10_readOperand_12 : decode cX10_readOperand 12 = .ok (.aload_n 0, 1) := kd_r kbX10_readOperand ki_0 rfl
theorem dX10_readOperand_13 : decode cX10_readOperand 13 = .ok (.invokevirtual 55, 3) := kd_r kbX10_readOperand ki_329 rfl
theorem dX10_readOperand_16 : decode cX10_readOperand 16 = .ok (.iconst 1, 1) := kd_r kbX10_readOperand ki_16 rfl
theorem dX10_readOperand_17 : decode cX10_readOperand 17 = .ok (.ireturn, 1) := kd_r kbX10_readOperand ki_7 rfl
theorem dX10_readOperand_18 : decode cX10_readOperand 18 = .ok (.iload_n 2, 1) := kd_r kbX10_readOperand ki_11 rfl
theorem dX10_readOperand_19 : decode cX10_readOperand 19 = .ok (.invokestatic 58, 3) := kd_r kbX10_readOperand ki_331 rfl
theorem dX10_readOperand_22 : decode cX10_readOperand 22 = .ok (.istore_n 3, 1) := kd_r kbX10_readOperand ki_108 rfl
theorem dX10_readOperand_23 : decode cX10_readOperand 23 = .ok (.iload_n 3, 1) := kd_r kbX10_readOperand ki_55 rfl
theorem dX10_readOperand_24 : decode cX10_readOperand 24 = .ok (.ifCond .lt 23, 3) := kd_r kbX10_readOperand ki_473 rfl
theorem dX10_readOperand_27 : decode cX10_readOperand 27 = .ok (.aload_n 0, 1) := kd_r kbX10_readOperand ki_0 rfl
theorem dX10_readOperand_28 : decode cX10_readOperand 28 = .ok (.dup, 1) := kd_r kbX10_readOperand ki_29 rfl
theorem dX10_readOperand_29 : decode cX10_readOperand 29 = .ok (.getfield 17, 3) := kd_r kbX10_readOperand ki_457 rfl
theorem dX10_readOperand_32 : decode cX10_readOperand 32 = .ok (.iconst 1, 1) := kd_r kbX10_readOperand ki_16 rfl
theorem dX10_readOperand_33 : decode cX10_readOperand 33 = .ok (.iadd, 1) := kd_r kbX10_readOperand ki_30 rfl
theorem dX10_readOperand_34 : decode cX10_readOperand 34 = .ok (.putfield 17, 3) := kd_r kbX10_readOperand ki_451 rfl
theorem dX10_readOperand_37 : decode cX10_readOperand 37 = .ok (.aload_n 0, 1) := kd_r kbX10_readOperand ki_0 rfl
theorem dX10_readOperand_38 : decode cX10_readOperand 38 = .ok (.getfield 20, 3) := kd_r kbX10_readOperand ki_453 rfl
theorem dX10_readOperand_41 : decode cX10_readOperand 41 = .ok (.iload_n 3, 1) := kd_r kbX10_readOperand ki_55 rfl
theorem dX10_readOperand_42 : decode cX10_readOperand 42 = .ok (.invokevirtual 41, 3) := kd_r kbX10_readOperand ki_419 rfl
theorem dX10_readOperand_45 : decode cX10_readOperand 45 = .ok (.iconst 1, 1) := kd_r kbX10_readOperand ki_16 rfl
theorem dX10_readOperand_46 : decode cX10_readOperand 46 = .ok (.ireturn, 1) := kd_r kbX10_readOperand ki_7 rfl
theorem dX10_readOperand_47 : decode cX10_readOperand 47 = .ok (.iload_n 1, 1) := kd_r kbX10_readOperand ki_8 rfl
theorem dX10_readOperand_48 : decode cX10_readOperand 48 = .ok (.bipush 6, 2) := kd_r kbX10_readOperand ki_2 rfl
theorem dX10_readOperand_50 : decode cX10_readOperand 50 = .ok (.if_icmp .ge 21, 3) := kd_r kbX10_readOperand ki_226 rfl
theorem dX10_readOperand_53 : decode cX10_readOperand 53 = .ok (.iload_n 2, 1) := kd_r kbX10_readOperand ki_11 rfl
theorem dX10_readOperand_54 : decode cX10_readOperand 54 = .ok (.bipush 40, 2) := kd_r kbX10_readOperand ki_44 rfl
theorem dX10_readOperand_56 : decode cX10_readOperand 56 = .ok (.if_icmp .eq 17, 3) := kd_r kbX10_readOperand ki_474 rfl
theorem dX10_readOperand_59 : decode cX10_readOperand 59 = .ok (.iload_n 2, 1) := kd_r kbX10_readOperand ki_11 rfl
theorem dX10_readOperand_60 : decode cX10_readOperand 60 = .ok (.bipush 33, 2) := kd_r kbX10_readOperand ki_270 rfl
theorem dX10_readOperand_62 : decode cX10_readOperand 62 = .ok (.if_icmp .eq 11, 3) := kd_r kbX10_readOperand ki_475 rfl
theorem dX10_readOperand_65 : decode cX10_readOperand 65 = .ok (.iload_n 2, 1) := kd_r kbX10_readOperand ki_11 rfl
theorem dX10_readOperand_66 : decode cX10_readOperand 66 = .ok (.bipush 45, 2) := kd_r kbX10_readOperand ki_468 rfl
theorem dX10_readOperand_68 : decode cX10_readOperand 68 = .ok (.if_icmp .eq 5, 3) := kd_r kbX10_readOperand ki_476 rfl
theorem dX10_readOperand_71 : decode cX10_readOperand 71 = .ok (.iconst 0, 1) := kd_r kbX10_readOperand ki_20 rfl
theorem dX10_readOperand_72 : decode cX10_readOperand 72 = .ok (.ireturn, 1) := kd_r kbX10_readOperand ki_7 rfl
theorem dX10_readOperand_73 : decode cX10_readOperand 73 = .ok (.aload_n 0, 1) := kd_r kbX10_readOperand ki_0 rfl
theorem dX10_readOperand_74 : decode cX10_readOperand 74 = .ok (.dup, 1) := kd_r kbX10_readOperand ki_29 rfl
theorem dX10_readOperand_75 : decode cX10_readOperand 75 = .ok (.getfield 17, 3) := kd_r kbX10_readOperand ki_457 rfl
theorem dX10_readOperand_78 : decode cX10_readOperand 78 = .ok (.iconst 1, 1) := kd_r kbX10_readOperand ki_16 rfl
theorem dX10_readOperand_79 : decode cX10_readOperand 79 = .ok (.iadd, 1) := kd_r kbX10_readOperand ki_30 rfl
theorem dX10_readOperand_80 : decode cX10_readOperand 80 = .ok (.putfield 17, 3) := kd_r kbX10_readOperand ki_451 rfl
theorem dX10_readOperand_83 : decode cX10_readOperand 83 = .ok (.iload_n 2, 1) := kd_r kbX10_readOperand ki_11 rfl
theorem dX10_readOperand_84 : decode cX10_readOperand 84 = .ok (.bipush 40, 2) := kd_r kbX10_readOperand ki_44 rfl
theorem dX10_readOperand_86 : decode cX10_readOperand 86 = .ok (.if_icmp .ne 13, 3) := kd_r kbX10_readOperand ki_477 rfl
theorem dX10_readOperand_89 : decode cX10_readOperand 89 = .ok (.aload_n 0, 1) := kd_r kbX10_readOperand ki_0 rfl
theorem dX10_readOperand_90 : decode cX10_readOperand 90 = .ok (.iload_n 1, 1) := kd_r kbX10_readOperand ki_8 rfl
theorem dX10_readOperand_91 : decode cX10_readOperand 91 = .ok (.iconst 1, 1) := kd_r kbX10_readOperand ki_16 rfl
theorem dX10_readOperand_92 : decode cX10_readOperand 92 = .ok (.iadd, 1) := kd_r kbX10_readOperand ki_30 rfl
theorem dX10_readOperand_93 : decode cX10_readOperand 93 = .ok (.invokevirtual 62, 3) := kd_r kbX10_readOperand ki_478 rfl
theorem dX10_readOperand_96 : decode cX10_readOperand 96 = .ok (.goto 11, 3) := kd_r kbX10_readOperand ki_240 rfl
theorem dX10_readOperand_99 : decode cX10_readOperand 99 = .ok (.aload_n 0, 1) := kd_r kbX10_readOperand ki_0 rfl
theorem dX10_readOperand_100 : decode cX10_readOperand 100 = .ok (.iload_n 2, 1) := kd_r kbX10_readOperand ki_11 rfl
theorem dX10_readOperand_101 : decode cX10_readOperand 101 = .ok (.iload_n 1, 1) := kd_r kbX10_readOperand ki_8 rfl
theorem dX10_readOperand_102 : decode cX10_readOperand 102 = .ok (.iconst 1, 1) := kd_r kbX10_readOperand ki_16 rfl
theorem dX10_readOperand_103 : decode cX10_readOperand 103 = .ok (.iadd, 1) := kd_r kbX10_readOperand ki_30 rfl
theorem dX10_readOperand_104 : decode cX10_readOperand 104 = .ok (.invokevirtual 65, 3) := kd_r kbX10_readOperand ki_479 rfl
theorem dX10_readOperand_107 : decode cX10_readOperand 107 = .ok (.ireturn, 1) := kd_r kbX10_readOperand ki_7 rfl
set_option maxRecDepth 20000 in
theorem ggX10_readInner_X10_readChain : GoodIn wsX10_readInner wsX10_readChain := goodIn_r _ [12, 1, 13, 14, 15, 16, 5, 2, 3, 4, 6, 7, 8, 9, 10, 11, 17, 18, 19, 20, 21, 22, 23, 24, 25, 26, 0, 27, 28, 29, 30, 31, 32, 33, 34, 35, 36, 37, 38, 39, 40, 41, 42, 43, 44, 45, 46, 47, 48, 49, 50, 51, 52, 53, 54] rfl (by decide +kernel)
set_option maxRecDepth 20000 in
theorem gX10_readInner_X10_readChain : GoodIn wsX10_readInner (wsV RX10 37 RX10 yX10_readChain wsX10_readChain) := goodIn_app (goodIn_of _ (by decide +kernel)) ggX10_readInner_X10_readChain
set_option maxRecDepth 20000 in
theorem ggX10_readInner_X10_next : GoodIn wsX10_readInner wsX10_next := goodIn_r _ [9, 1, 10, 11, 46, 47, 48, 49] rfl (by decide +kernel)
set_option maxRecDepth 20000 in
theorem gX10_readInner_X10_next : GoodIn wsX10_readInner (wsV RX10 33 RX10 yX10_next wsX10_next) := goodIn_app (goodIn_of _ (by decide +kernel)) ggX10_readInner_X10_next
theorem dX10_readInner_0 : decode cX10_readInner 0 = .ok (.aload_n 0, 1) := kd_r kbX10_readInner ki_0 rfl
theorem dX10_readInner_1 : decode cX10_readInner 1 = .ok (.iconst 0, 1) := kd_r kbX10_readInner ki_20 rfl
theorem dX10_readInner_2 : decode cX10_readInner 2 = .ok (.iload_n 1, 1) := kd_r kbX10_readInner ki_8 rfl
theorem dX10_readInner_3 : decode cX10_readInner 3 = .ok (.invokevirtual 37, 3) := kd_r kbX10_readInner ki_395 rfl
theorem dX10_readInner_6 : decode cX10_readInner 6 = .ok (.ifCond .eq 12, 3) := kd_r kbX10_readInner ki_122 rfl
theorem dX10_readInner_9 : decode cX10_readInner 9 = .ok (.aload_n 0, 1) := kd_r kbX10_readInner ki_0 rfl
theorem dX10_readInner_10 : decode cX10_readInner 10 = .ok (.invokevirtual 33, 3) := kd_r kbX10_readInner ki_294 rfl
theorem dX10_readInner_13 : decode cX10_readInner 13 = .ok (.bipush 41, 2) := kd_r kbX10_readInner ki_187 rfl
theorem dX10_readInner_15 : decode cX10_readInner 15 = .ok (.if_icmp .eq 5, 3) := kd_r kbX10_readInner ki_476 rfl
theorem dX10_readInner_18 : decode cX10_readInner 18 = .ok (.iconst 0, 1) := kd_r kbX10_readInner ki_20 rfl
theorem dX10_readInner_19 : decode cX10_readInner 19 = .ok (.ireturn, 1) := kd_r kbX10_readInner ki_7 rfl
theorem dX10_readInner_20 : decode cX10_readInner 20 = .ok (.aload_n 0, 1) := kd_r kbX10_readInner ki_0 rfl
theorem dX10_readInner_21 : decode cX10_readInner 21 = .ok (.dup, 1) := kd_r kbX10_readInner ki_29 rfl
theorem dX10_readInner_22 : decode cX10_readInner 22 = .ok (.getfield 17, 3) := kd_r kbX10_readInner ki_457 rfl
theorem dX10_readInner_25 : decode cX10_readInner 25 = .ok (.iconst 1, 1) := kd_r kbX10_readInner ki_16 rfl
theorem dX10_readInner_26 : decode cX10_readInner 26 = .ok (.iadd, 1) := kd_r kbX10_readInner ki_30 rfl
theorem dX10_readInner_27 : decode cX10_readInner 27 = .ok (.putfield 17, 3) := kd_r kbX10_readInner ki_451 rfl
theorem dX10_readInner_30 : decode cX10_readInner 30 = .ok (.iconst 1, 1) := kd_r kbX10_readInner ki_16 rfl
theorem dX10_readInner_31 : decode cX10_readInner 31 = .ok (.ireturn, 1) := kd_r kbX10_readInner ki_7 rfl
set_option maxRecDepth 20000 in
theorem ggX10_readSigned_X10_readOperand : GoodIn wsX10_readSigned wsX10_readOperand := goodIn_r _ [28, 14, 1, 18, 19, 20, 5, 21, 22, 23, 29, 30, 31, 32, 33, 34, 35, 6, 7, 8, 9, 10, 11, 12, 36, 37, 38, 39, 40, 41, 42, 43, 44, 45, 13, 2, 3, 4, 15, 16, 17, 24, 25, 26, 27, 0, 46, 47, 48, 49, 50, 51, 52, 53, 54] rfl (by decide +kernel)
set_option maxRecDepth 20000 in
theorem gX10_readSigned_X10_readOperand : GoodIn wsX10_readSigned (wsV RX10 45 RX10 yX10_readOperand wsX10_readOperand) := goodIn_app (goodIn_of _ (by decide +kernel)) ggX10_readSigned_X10_readOperand
set_option maxRecDepth 20000 in
theorem ggX10_readSigned_X4_append : GoodIn wsX10_readSigned wsX4_append := goodIn_r _ [10, 11, 12, 50, 51, 52, 53, 54] rfl (by decide +kernel)
set_option maxRecDepth 20000 in
theorem gX10_readSigned_X4_append : GoodIn wsX10_readSigned (wsV RX10 41 RX4 yX4_append wsX4_append) := goodIn_app (goodIn_of _ (by decide +kernel)) ggX10_readSigned_X4_append
theorem dX10_readSigned_0 : decode cX10_readSigned 0 = .ok (.aload_n 0, 1) := kd_r kbX10_readSigned ki_0 rfl
theorem dX10_readSigned_1 : decode cX10_readSigned 1 = .ok (.iload_n 2, 1) := kd_r kbX10_readSigned ki_11 rfl
theorem dX10_readSigned_2 : decode cX10_readSigned 2 = .ok (.invokevirtual 45, 3) := kd_r kbX10_readSigned ki_84 rfl
theorem dX10_readSigned_5 : decode cX10_readSigned 5 = .ok (.ifCond .ne 5, 3) := kd_r kbX10_readSigned ki_36 rfl
theorem dX10_readSigned_8 : decode cX10_readSigned 8 = .ok (.iconst 0, 1) := kd_r kbX10_readSigned ki_20 rfl
theorem dX10_readSigned_9 : decode cX10_readSigned 9 = .ok (.ireturn, 1) := kd_r kbX10_readSigned ki_7 rfl
theorem dX10_readSigned_10 : decode cX10_readSigned 10 = .ok (.aload_n 0, 1) := kd_r kbX10_readSigned ki_0 rfl
theorem dX10_readSigned_11 : decode cX10_readSigned 11 = .ok (.getfield 20, 3) := kd_r kbX10_readSigned ki_453 rfl
theorem dX10_readSigned_14 : decode cX10_readSigned 14 = .ok (.iload_n 1, 1) := kd_r kbX10_readSigned ki_8 rfl
theorem dX10_readSigned_15 : decode cX10_readSigned 15 = .ok (.bipush 33, 2) := kd_r kbX10_readSigned ki_270 rfl
theorem dX10_readSigned_17 : decode cX10_readSigned 17 = .ok (.if_icmp .ne 8, 3) := kd_r kbX10_readSigned ki_256 rfl
theorem dX10_readSigned_20 : decode cX10_readSigned 20 = .ok (.bipush 33, 2) := kd_r kbX10_readSigned ki_270 rfl
theorem dX10_readSigned_22 : decode cX10_readSigned 22 = .ok (.goto 5, 3) := kd_r kbX10_readSigned ki_342 rfl
theorem dX10_readSigned_25 : decode cX10_readSigned 25 = .ok (.bipush 126, 2) := kd_r kbX10_readSigned ki_274 rfl
theorem dX10_readSigned_27 : decode cX10_readSigned 27 = .ok (.invokevirtual 41, 3) := kd_r kbX10_readSigned ki_419 rfl
theorem dX10_readSigned_30 : decode cX10_readSigned 30 = .ok (.iconst 1, 1) := kd_r kbX10_readSigned ki_16 rfl
theorem dX10_readSigned_31 : decode cX10_readSigned 31 = .ok (.ireturn, 1) := kd_r kbX10_readSigned ki_7 rfl
set_option maxRecDepth 20000 in
theorem ggX10_readNumber_X10_next : GoodIn wsX10_readNumber wsX10_next := goodIn_r _ [7, 1, 8, 9, 20, 21, 22, 23] rfl (by decide +kernel)
set_option maxRecDepth 20000 in
theorem gX10_readNumber_X10_next : GoodIn wsX10_readNumber (wsV RX10 33 RX10 yX10_next wsX10_next) := goodIn_app (goodIn_of _ (by decide +kernel)) ggX10_readNumber_X10_next
set_option maxRecDepth 20000 in
theorem ggX10_readNumber_X10_isDigit : GoodIn wsX10_readNumber wsX10_isDigit := goodIn_r _ [12] rfl (by decide +kernel)
set_option maxRecDepth 20000 in
theorem gX10_readNumber_X10_isDigit : GoodIn wsX10_readNumber (va_wsS RX10 52 yX10_isDigit wsX10_isDigit) := goodIn_app (goodIn_of _ (by decide +kernel)) ggX10_readNumber_X10_isDigit
set_option maxRecDepth 20000 in
theorem ggX10_readNumber_X4_append : GoodIn wsX10_readNumber wsX4_append := goodIn_r _ [17, 18, 19, 24, 25, 26, 27, 28] rfl (by decide +kernel)
set_option maxRecDepth 20000 in
theorem gX10_readNumber_X4_append : GoodIn wsX10_readNumber (wsV RX10 41 RX4 yX4_append wsX4_append) := goodIn_app (goodIn_of _ (by decide +kernel)) ggX10_readNumber_X4_append
theorem dX10_readNumber_0 : decode cX10_readNumber 0 = .ok (.iconst 0, 1) := kd_r kbX10_readNumber ki_20 rfl
theorem dX10_readNumber_1 : decode cX10_readNumber 1 = .ok (.istore_n 1, 1) := kd_r kbX10_readNumber ki_60 rfl
theorem dX10_readNumber_2 : decode cX10_readNumber 2 = .ok (.iconst 0, 1) := kd_r kbX10_readNumber ki_20 rfl
theorem dX10_readNumber_3 : decode cX10_readNumber 3 = .ok (.istore_n 2, 1) := kd_r kbX10_readNumber ki_32 rfl
theorem dX10_readNumber_4 : decode cX10_readNumber 4 = .ok (.iload_n 2, 1) := kd_r kbX10_readNumber ki_11 rfl
theorem dX10_readNumber_5 : decode cX10_readNumber 5 = .ok (.iconst 4, 1) := kd_r kbX10_readNumber ki_247 rfl
theorem dX10_readNumber_6 : decode cX10_readNumber 6 = .ok (.if_icmp .ge 42, 3) := kd_r kbX10_readNumber ki_480 rfl
theorem dX10_readNumber_9 : decode cX10_readNumber 9 = .ok (.aload_n 0, 1) := kd_r kbX10_readNumber ki_0 rfl
theorem dX10_readNumber_10 : decode cX10_readNumber 10 = .ok (.invokevirtual 33, 3) := kd_r kbX10_readNumber ki_294 rfl
theorem dX10_readNumber_13 : decode cX10_readNumber 13 = .ok (.invokestatic 52, 3) := kd_r kbX10_readNumber ki_236 rfl
theorem dX10_readNumber_16 : decode cX10_readNumber 16 = .ok (.ifCond .eq 32, 3) := kd_r kbX10_readNumber ki_481 rfl
theorem dX10_readNumber_19 : decode cX10_readNumber 19 = .ok (.iload_n 1, 1) := kd_r kbX10_readNumber ki_8 rfl
theorem dX10_readNumber_20 : decode cX10_readNumber 20 = .ok (.bipush 10, 2) := kd_r kbX10_readNumber ki_71 rfl
theorem dX10_readNumber_22 : decode cX10_readNumber 22 = .ok (.imul, 1) := kd_r kbX10_readNumber ki_114 rfl
theorem dX10_readNumber_23 : decode cX10_readNumber 23 = .ok (.aload_n 0, 1) := kd_r kbX10_readNumber ki_0 rfl
theorem dX10_readNumber_24 : decode cX10_readNumber 24 = .ok (.invokevirtual 33, 3) := kd_r kbX10_readNumber ki_294 rfl
theorem dX10_readNumber_27 : decode cX10_readNumber 27 = .ok (.iadd, 1) := kd_r kbX10_readNumber ki_30 rfl
theorem dX10_readNumber_28 : decode cX10_readNumber 28 = .ok (.bipush 48, 2) := kd_r kbX10_readNumber ki_482 rfl
theorem dX10_readNumber_30 : decode cX10_readNumber 30 = .ok (.isub, 1) := kd_r kbX10_readNumber ki_50 rfl
theorem dX10_readNumber_31 : decode cX10_readNumber 31 = .ok (.istore_n 1, 1) := kd_r kbX10_readNumber ki_60 rfl
theorem dX10_readNumber_32 : decode cX10_readNumber 32 = .ok (.aload_n 0, 1) := kd_r kbX10_readNumber ki_0 rfl
theorem dX10_readNumber_33 : decode cX10_readNumber 33 = .ok (.dup, 1) := kd_r kbX10_readNumber ki_29 rfl
theorem dX10_readNumber_34 : decode cX10_readNumber 34 = .ok (.getfield 17, 3) := kd_r kbX10_readNumber ki_457 rfl
theorem dX10_readNumber_37 : decode cX10_readNumber 37 = .ok (.iconst 1, 1) := kd_r kbX10_readNumber ki_16 rfl
theorem dX10_readNumber_38 : decode cX10_readNumber 38 = .ok (.iadd, 1) := kd_r kbX10_readNumber ki_30 rfl
theorem dX10_readNumber_39 : decode cX10_readNumber 39 = .ok (.putfield 17, 3) := kd_r kbX10_readNumber ki_451 rfl
theorem dX10_readNumber_42 : decode cX10_readNumber 42 = .ok (.iinc 2 1, 3) := kd_r kbX10_readNumber ki_37 rfl
theorem dX10_readNumber_45 : decode cX10_readNumber 45 = .ok (.goto (-41), 3) := kd_r kbX10_readNumber ki_355 rfl
theorem dX10_readNumber_48 : decode cX10_readNumber 48 = .ok (.aload_n 0, 1) := kd_r kbX10_readNumber ki_0 rfl
theorem dX10_readNumber_49 : decode cX10_readNumber 49 = .ok (.getfield 20, 3) := kd_r kbX10_readNumber ki_453 rfl
theorem dX10_readNumber_52 : decode cX10_readNumber 52 = .ok (.sipush 256, 3) := kd_r kbX10_readNumber ki_264 rfl
theorem dX10_readNumber_55 : decode cX10_readNumber 55 = .ok (.iload_n 1, 1) := kd_r kbX10_readNumber ki_8 rfl
theorem dX10_readNumber_56 : decode cX10_readNumber 56 = .ok (.iadd, 1) := kd_r kbX10_readNumber ki_30 rfl
theorem dX10_readNumber_57 : decode cX10_readNumber 57 = .ok (.invokevirtual 41, 3) := kd_r kbX10_readNumber ki_419 rfl
theorem dX10_readNumber_60 : decode cX10_readNumber 60 = .ok (.return_, 1) := kd_r kbX10_readNumber ki_5 rfl
theorem dX10_isDigit_0 : decode cX10_isDigit 0 = .ok (.iload_n 0, 1) := kd_r kbX10_isDigit ki_40 rfl
theorem dX10_isDigit_1 : decode cX10_isDigit 1 = .ok (.bipush 48, 2) := kd_r kbX10_isDigit ki_482 rfl
theorem dX10_isDigit_3 : decode cX10_isDigit 3 = .ok (.if_icmp .lt 13, 3) := kd_r kbX10_isDigit ki_189 rfl
theorem dX10_isDigit_6 : decode cX10_isDigit 6 = .ok (.iload_n 0, 1) := kd_r kbX10_isDigit ki_40 rfl
theorem dX10_isDigit_7 : decode cX10_isDigit 7 = .ok (.bipush 57, 2) := kd_r kbX10_isDigit ki_483 rfl
theorem dX10_isDigit_9 : decode cX10_isDigit 9 = .ok (.if_icmp .gt 7, 3) := kd_r kbX10_isDigit ki_191 rfl
theorem dX10_isDigit_12 : decode cX10_isDigit 12 = .ok (.iconst 1, 1) := kd_r kbX10_isDigit ki_16 rfl
theorem dX10_isDigit_13 : decode cX10_isDigit 13 = .ok (.goto 4, 3) := kd_r kbX10_isDigit ki_19 rfl
theorem dX10_isDigit_16 : decode cX10_isDigit 16 = .ok (.iconst 0, 1) := kd_r kbX10_isDigit ki_20 rfl
theorem dX10_isDigit_17 : decode cX10_isDigit 17 = .ok (.ireturn, 1) := kd_r kbX10_isDigit ki_7 rfl
set_option maxRecDepth 20000 in
theorem ggX11_init_X9_init : GoodIn wsX11_init wsX9_init := goodIn_r _ [50, 51, 2, 3, 52, 53, 54, 55, 135, 136, 137, 138] rfl (by decide +kernel)
set_option maxRecDepth 20000 in
theorem gX11_init_X9_init_n15 : GoodIn wsX11_init (wsX9_init) := ggX11_init_X9_init
set_option maxRecDepth 20000 in
theorem ggX11_init_X1_init : GoodIn wsX11_init wsX1_init := goodIn_r _ [57, 58, 2, 3, 52, 59, 60, 61, 62, 139, 140, 141, 142, 143, 144] rfl (by decide +kernel)
set_option maxRecDepth 20000 in
theorem gX11_init_X1_init_n22 : GoodIn wsX11_init (wsX1_init) := ggX11_init_X1_init
set_option maxRecDepth 20000 in
theorem ggX11_init_X7_init : GoodIn wsX11_init wsX7_init := goodIn_r _ [64, 65, 2, 3, 52, 66, 145, 146] rfl (by decide +kernel)
set_option maxRecDepth 20000 in
theorem gX11_init_X7_init_n29 : GoodIn wsX11_init (wsX7_init) := ggX11_init_X7_init
set_option maxRecDepth 20000 in
theorem ggX11_init_X3_init : GoodIn wsX11_init wsX3_init := goodIn_r _ [68, 69, 2, 3, 52, 70, 71, 72, 73, 147, 148, 149, 150] rfl (by decide +kernel)
set_option maxRecDepth 20000 in
theorem gX11_init_X3_init_n36 : GoodIn wsX11_init (wsX3_init) := ggX11_init_X3_init
set_option maxRecDepth 20000 in
theorem ggX11_init_X6_init : GoodIn wsX11_init wsX6_init := goodIn_r _ [75, 76, 2, 3, 77, 52, 78, 79, 80, 81, 151, 152, 153, 154, 155] rfl (by decide +kernel)
set_option maxRecDepth 20000 in
theorem gX11_init_X6_init_n43 : GoodIn wsX11_init (wsX6_init) := ggX11_init_X6_init
set_option maxRecDepth 20000 in
theorem ggX11_init_X0_init : GoodIn wsX11_init wsX0_init := goodIn_r _ [83, 84, 2, 3, 52, 85, 156, 157] rfl (by decide +kernel)
set_option maxRecDepth 20000 in
theorem gX11_init_X0_init_n50 : GoodIn wsX11_init (wsX0_init) := ggX11_init_X0_init
set_option maxRecDepth 20000 in
theorem ggX11_init_X2_init : GoodIn wsX11_init wsX2_init := goodIn_r _ [87, 88, 2, 3, 52, 89, 90, 91, 92, 93, 94, 95, 96, 97, 98, 99, 158, 159, 160, 161, 162, 163, 164, 165, 166, 167, 168, 169, 170] rfl (by decide +kernel)
set_option maxRecDepth 20000 in
theorem gX11_init_X2_init_n57 : GoodIn wsX11_init (wsX2_init) := ggX11_init_X2_init
set_option maxRecDepth 20000 in
theorem ggX11_init_X10_init : GoodIn wsX11_init wsX10_init := goodIn_r _ [101, 102, 2, 3, 52, 103, 171, 172, 173, 174] rfl (by decide +kernel)
set_option maxRecDepth 20000 in
theorem gX11_init_X10_init_n64 : GoodIn wsX11_init (wsX10_init) := ggX11_init_X10_init
set_option maxRecDepth 20000 in
theorem ggX11_init_X5_init : GoodIn wsX11_init wsX5_init := goodIn_r _ [105, 106, 2, 3, 52, 107, 108, 175, 176, 177, 178] rfl (by decide +kernel)
set_option maxRecDepth 20000 in
theorem gX11_init_X5_init_n77 : GoodIn wsX11_init (wsX5_init) := ggX11_init_X5_init
set_option maxRecDepth 20000 in
theorem ggX11_init_X4_init : GoodIn wsX11_init wsX4_init := goodIn_r _ [110, 111, 2, 3, 52, 112, 113, 114, 115, 179, 180, 181, 182, 183] rfl (by decide +kernel)
set_option maxRecDepth 20000 in
theorem gX11_init_X4_init_n88 : GoodIn wsX11_init (wsX4_init) := ggX11_init_X4_init
set_option maxRecDepth 20000 in
theorem ggX11_init_X8_init : GoodIn wsX11_init wsX8_init := goodIn_r _ [117, 118, 2, 3, 95, 119, 120, 184, 185, 186, 187] rfl (by decide +kernel)
set_option maxRecDepth 20000 in
theorem gX11_init_X8_init_n89 : GoodIn wsX11_init (wsX8_init) := ggX11_init_X8_init
theorem dX11_init_0 : decode cX11_init 0 = .ok (.aload_n 0, 1) := kd_r kbX11_init ki_0 rfl
theorem dX11_init_1 : decode cX11_init 1 = .ok (.invokespecial 1, 3) := kd_r kbX11_init ki_43 rfl
theorem dX11_init_4 : decode cX11_init 4 = .ok (.aload_n 0, 1) := kd_r kbX11_init ki_0 rfl
theorem dX11_init_5 : decode cX11_init 5 = .ok (.bipush 6, 2) := kd_r kbX11_init ki_2 rfl
theorem dX11_init_7 : decode cX11_init 7 = .ok (.anewarray 9, 3) := kd_r kbX11_init ki_484 rfl
theorem dX11_init_10 : decode cX11_init 10 = .ok (.putfield 11, 3) := kd_r kbX11_init ki_72 rfl
theorem dX11_init_13 : decode cX11_init 13 = .ok (.aload_n 0, 1) := kd_r kbX11_init ki_0 rfl
theorem dX11_init_14 : decode cX11_init 14 = .ok (.new 9, 3) := kd_r kbX11_init ki_485 rfl
theorem dX11_init_17 : decode cX11_init 17 = .ok (.dup, 1) := kd_r kbX11_init ki_29 rfl
theorem dX11_init_18 : decode cX11_init 18 = .ok (.invokespecial 15, 3) := kd_r kbX11_init ki_486 rfl
theorem dX11_init_21 : decode cX11_init 21 = .ok (.putfield 16, 3) := kd_r kbX11_init ki_46 rfl
theorem dX11_init_24 : decode cX11_init 24 = .ok (.aload_n 0, 1) := kd_r kbX11_init ki_0 rfl
theorem dX11_init_25 : decode cX11_init 25 = .ok (.new 20, 3) := kd_r kbX11_init ki_487 rfl
theorem dX11_init_28 : decode cX11_init 28 = .ok (.dup, 1) := kd_r kbX11_init ki_29 rfl
theorem dX11_init_29 : decode cX11_init 29 = .ok (.invokespecial 22, 3) := kd_r kbX11_init ki_488 rfl
theorem dX11_init_32 : decode cX11_init 32 = .ok (.putfield 23, 3) := kd_r kbX11_init ki_314 rfl
theorem dX11_init_35 : decode cX11_init 35 = .ok (.aload_n 0, 1) := kd_r kbX11_init ki_0 rfl
theorem dX11_init_36 : decode cX11_init 36 = .ok (.new 27, 3) := kd_r kbX11_init ki_489 rfl
theorem dX11_init_39 : decode cX11_init 39 = .ok (.dup, 1) := kd_r kbX11_init ki_29 rfl
theorem dX11_init_40 : decode cX11_init 40 = .ok (.invokespecial 29, 3) := kd_r kbX11_init ki_490 rfl
theorem dX11_init_43 : decode cX11_init 43 = .ok (.putfield 30, 3) := kd_r kbX11_init ki_491 rfl
theorem dX11_init_46 : decode cX11_init 46 = .ok (.aload_n 0, 1) := kd_r kbX11_init ki_0 rfl
theorem dX11_init_47 : decode cX11_init 47 = .ok (.new 34, 3) := kd_r kbX11_init ki_492 rfl
theorem dX11_init_50 : decode cX11_init 50 = .ok (.dup, 1) := kd_r kbX11_init ki_29 rfl
theorem dX11_init_51 : decode cX11_init 51 = .ok (.invokespecial 36, 3) := kd_r kbX11_init ki_493 rfl
theorem dX11_init_54 : decode cX11_init 54 = .ok (.putfield 37, 3) := kd_r kbX11_init ki_494 rfl
theorem dX11_init_57 : decode cX11_init 57 = .ok (.aload_n 0, 1) := kd_r kbX11_init ki_0 rfl
theorem dX11_init_58 : decode cX11_init 58 = .ok (.new 41, 3) := kd_r kbX11_init ki_495 rfl
theorem dX11_init_61 : decode cX11_init 61 = .ok (.dup, 1) := kd_r kbX11_init ki_29 rfl
theorem dX11_init_62 : decode cX11_init 62 = .ok (.invokespecial 43, 3) := kd_r kbX11_init ki_496 rfl
theorem dX11_init_65 : decode cX11_init 65 = .ok (.putfield 44, 3) := kd_r kbX11_init ki_497 rfl
theorem dX11_init_68 : decode cX11_init 68 = .ok (.aload_n 0, 1) := kd_r kbX11_init ki_0 rfl
theorem dX11_init_69 : decode cX11_init 69 = .ok (.new 48, 3) := kd_r kbX11_init ki_498 rfl
theorem dX11_init_72 : decode cX11_init 72 = .ok (.dup, 1) := kd_r kbX11_init ki_29 rfl
theorem dX11_init_73 : decode cX11_init 73 = .ok (.invokespecial 50, 3) := kd_r kbX11_init ki_499 rfl
theorem dX11_init_76 : decode cX11_init 76 = .ok (.putfield 51, 3) := kd_r kbX11_init ki_500 rfl
theorem dX11_init_79 : decode cX11_init 79 = .ok (.aload_n 0, 1) := kd_r kbX11_init ki_0 rfl
theorem dX11_init_80 : decode cX11_init 80 = .ok (.new 55, 3) := kd_r kbX11_init ki_501 rfl
theorem dX11_init_83 : decode cX11_init 83 = .ok (.dup, 1) := kd_r kbX11_init ki_29 rfl
theorem dX11_init_84 : decode cX11_init 84 = .ok (.invokespecial 57, 3) := kd_r kbX11_init ki_502 rfl
theorem dX11_init_87 : decode cX11_init 87 = .ok (.putfield 58, 3) := kd_r kbX11_init ki_503 rfl
theorem dX11_init_90 : decode cX11_init 90 = .ok (.aload_n 0, 1) := kd_r kbX11_init ki_0 rfl
theorem dX11_init_91 : decode cX11_init 91 = .ok (.new 62, 3) := kd_r kbX11_init ki_504 rfl
theorem dX11_init_94 : decode cX11_init 94 = .ok (.dup, 1) := kd_r kbX11_init ki_29 rfl
theorem dX11_init_95 : decode cX11_init 95 = .ok (.invokespecial 64, 3) := kd_r kbX11_init ki_505 rfl
theorem dX11_init_98 : decode cX11_init 98 = .ok (.putfield 65, 3) := kd_r kbX11_init ki_506 rfl
theorem dX11_init_101 : decode cX11_init 101 = .ok (.aload_n 0, 1) := kd_r kbX11_init ki_0 rfl
theorem dX11_init_102 : decode cX11_init 102 = .ok (.iconst 4, 1) := kd_r kbX11_init ki_247 rfl
theorem dX11_init_103 : decode cX11_init 103 = .ok (.anewarray 69, 3) := kd_r kbX11_init ki_507 rfl
theorem dX11_init_106 : decode cX11_init 106 = .ok (.putfield 71, 3) := kd_r kbX11_init ki_508 rfl
theorem dX11_init_109 : decode cX11_init 109 = .ok (.aload_n 0, 1) := kd_r kbX11_init ki_0 rfl
theorem dX11_init_110 : decode cX11_init 110 = .ok (.new 75, 3) := kd_r kbX11_init ki_509 rfl
theorem dX11_init_113 : decode cX11_init 113 = .ok (.dup, 1) := kd_r kbX11_init ki_29 rfl
theorem dX11_init_114 : decode cX11_init 114 = .ok (.invokespecial 77, 3) := kd_r kbX11_init ki_510 rfl
theorem dX11_init_117 : decode cX11_init 117 = .ok (.putfield 78, 3) := kd_r kbX11_init ki_511 rfl
theorem dX11_init_120 : decode cX11_init 120 = .ok (.aload_n 0, 1) := kd_r kbX11_init ki_0 rfl
theorem dX11_init_121 : decode cX11_init 121 = .ok (.bipush 6, 2) := kd_r kbX11_init ki_2 rfl
theorem dX11_init_123 : decode cX11_init 123 = .ok (.anewarray 82, 3) := kd_r kbX11_init ki_512 rfl
theorem dX11_init_126 : decode cX11_init 126 = .ok (.putfield 84, 3) := kd_r kbX11_init ki_513 rfl
theorem dX11_init_129 : decode cX11_init 129 = .ok (.iconst 0, 1) := kd_r kbX11_init ki_20 rfl
theorem dX11_init_130 : decode cX11_init 130 = .ok (.istore_n 1, 1) := kd_r kbX11_init ki_60 rfl
theorem dX11_init_131 : decode cX11_init 131 = .ok (.iload_n 1, 1) := kd_r kbX11_init ki_8 rfl
theorem dX11_init_132 : decode cX11_init 132 = .ok (.aload_n 0, 1) := kd_r kbX11_init ki_0 rfl
theorem dX11_init_133 : decode cX11_init 133 = .ok (.getfield 11, 3) := kd_r kbX11_init ki_86 rfl
theorem dX11_init_136 : decode cX11_init 136 = .ok (.arraylength, 1) := kd_r kbX11_init ki_33 rfl
theorem dX11_init_137 : decode cX11_init 137 = .ok (.if_icmp .ge 22, 3) := kd_r kbX11_init ki_514 rfl
theorem dX11_init_140 : decode cX11_init 140 = .ok (.aload_n 0, 1) := kd_r kbX11_init ki_0 rfl
theorem dX11_init_141 : decode cX11_init 141 = .ok (.getfield 11, 3) := kd_r kbX11_init ki_86 rfl
theorem dX11_init_144 : decode cX11_init 144 = .ok (.iload_n 1, 1) := kd_r kbX11_init ki_8 rfl
theorem dX11_init_145 : decode cX11_init 145 = .ok (.new 9, 3) := kd_r kbX11_init ki_485 rfl
theorem dX11_init_148 : decode cX11_init 148 = .ok (.dup, 1) := kd_r kbX11_init ki_29 rfl
theorem dX11_init_149 : decode cX11_init 149 = .ok (.invokespecial 15, 3) := kd_r kbX11_init ki_486 rfl
theorem dX11_init_152 : decode cX11_init 152 = .ok (.aastore, 1) := kd_r kbX11_init ki_515 rfl
theorem dX11_init_153 : decode cX11_init 153 = .ok (.iinc 1 1, 3) := kd_r kbX11_init ki_62 rfl
theorem dX11_init_156 : decode cX11_init 156 = .ok (.goto (-25), 3) := kd_r kbX11_init ki_230 rfl
theorem dX11_init_159 : decode cX11_init 159 = .ok (.iconst 0, 1) := kd_r kbX11_init ki_20 rfl
theorem dX11_init_160 : decode cX11_init 160 = .ok (.istore_n 1, 1) := kd_r kbX11_init ki_60 rfl
theorem dX11_init_161 : decode cX11_init 161 = .ok (.iload_n 1, 1) := kd_r kbX11_init ki_8 rfl
theorem dX11_init_162 : decode cX11_init 162 = .ok (.aload_n 0, 1) := kd_r kbX11_init ki_0 rfl
theorem dX11_init_163 : decode cX11_init 163 = .ok (.getfield 71, 3) := kd_r kbX11_init ki_516 rfl
theorem dX11_init_166 : decode cX11_init 166 = .ok (.arraylength, 1) := kd_r kbX11_init ki_33 rfl
theorem dX11_init_167 : decode cX11_init 167 = .ok (.if_icmp .ge 22, 3) := kd_r kbX11_init ki_514 rfl
theorem dX11_init_170 : decode cX11_init 170 = .ok (.aload_n 0, 1) := kd_r kbX11_init ki_0 rfl
theorem dX11_init_171 : decode cX11_init 171 = .ok (.getfield 71, 3) := kd_r kbX11_init ki_516 rfl
theorem dX11_init_174 : decode cX11_init 174 = .ok (.iload_n 1, 1) := kd_r kbX11_init ki_8 rfl
theorem dX11_init_175 : decode cX11_init 175 = .ok (.new 69, 3) := kd_r kbX11_init ki_517 rfl
theorem dX11_init_178 : decode cX11_init 178 = .ok (.dup, 1) := kd_r kbX11_init ki_29 rfl
theorem dX11_init_179 : decode cX11_init 179 = .ok (.invokespecial 88, 3) := kd_r kbX11_init ki_518 rfl
theorem dX11_init_182 : decode cX11_init 182 = .ok (.aastore, 1) := kd_r kbX11_init ki_515 rfl
theorem dX11_init_183 : decode cX11_init 183 = .ok (.iinc 1 1, 3) := kd_r kbX11_init ki_62 rfl
theorem dX11_init_186 : decode cX11_init 186 = .ok (.goto (-25), 3) := kd_r kbX11_init ki_230 rfl
theorem dX11_init_189 : decode cX11_init 189 = .ok (.iconst 0, 1) := kd_r kbX11_init ki_20 rfl
theorem dX11_init_190 : decode cX11_init 190 = .ok (.istore_n 1, 1) := kd_r kbX11_init ki_60 rfl
theorem dX11_init_191 : decode cX11_init 191 = .ok (.iload_n 1, 1) := kd_r kbX11_init ki_8 rfl
theorem dX11_init_192 : decode cX11_init 192 = .ok (.aload_n 0, 1) := kd_r kbX11_init ki_0 rfl
theorem dX11_init_193 : decode cX11_init 193 = .ok (.getfield 84, 3) := kd_r kbX11_init ki_519 rfl
theorem dX11_init_196 : decode cX11_init 196 = .ok (.arraylength, 1) := kd_r kbX11_init ki_33 rfl
theorem dX11_init_197 : decode cX11_init 197 = .ok (.if_icmp .ge 22, 3) := kd_r kbX11_init ki_514 rfl
theorem dX11_init_200 : decode cX11_init 200 = .ok (.aload_n 0, 1) := kd_r kbX11_init ki_0 rfl
theorem dX11_init_201 : decode cX11_init 201 = .ok (.getfield 84, 3) := kd_r kbX11_init ki_519 rfl
theorem dX11_init_204 : decode cX11_init 204 = .ok (.iload_n 1, 1) := kd_r kbX11_init ki_8 rfl
theorem dX11_init_205 : decode cX11_init 205 = .ok (.new 82, 3) := kd_r kbX11_init ki_520 rfl
theorem dX11_init_208 : decode cX11_init 208 = .ok (.dup, 1) := kd_r kbX11_init ki_29 rfl
theorem dX11_init_209 : decode cX11_init 209 = .ok (.invokespecial 89, 3) := kd_r kbX11_init ki_521 rfl
theorem dX11_init_212 : decode cX11_init 212 = .ok (.aastore, 1) := kd_r kbX11_init ki_515 rfl
theorem dX11_init_213 : decode cX11_init 213 = .ok (.iinc 1 1, 3) := kd_r kbX11_init ki_62 rfl
theorem dX11_init_216 : decode cX11_init 216 = .ok (.goto (-25), 3) := kd_r kbX11_init ki_230 rfl
theorem dX11_init_219 : decode cX11_init 219 = .ok (.return_, 1) := kd_r kbX11_init ki_5 rfl
theorem dX11_street_0 : decode cX11_street 0 = .ok (.aload_n 0, 1) := kd_r kbX11_street ki_0 rfl
theorem dX11_street_1 : decode cX11_street 1 = .ok (.getfield 90, 3) := kd_r kbX11_street ki_522 rfl
theorem dX11_street_4 : decode cX11_street 4 = .ok (.aload_n 0, 1) := kd_r kbX11_street ki_0 rfl
theorem dX11_street_5 : decode cX11_street 5 = .ok (.getfield 11, 3) := kd_r kbX11_street ki_86 rfl
theorem dX11_street_8 : decode cX11_street 8 = .ok (.arraylength, 1) := kd_r kbX11_street ki_33 rfl
theorem dX11_street_9 : decode cX11_street 9 = .ok (.if_icmp .ge 17, 3) := kd_r kbX11_street ki_424 rfl
theorem dX11_street_12 : decode cX11_street 12 = .ok (.aload_n 0, 1) := kd_r kbX11_street ki_0 rfl
theorem dX11_street_13 : decode cX11_street 13 = .ok (.dup, 1) := kd_r kbX11_street ki_29 rfl
theorem dX11_street_14 : decode cX11_street 14 = .ok (.getfield 90, 3) := kd_r kbX11_street ki_522 rfl
theorem dX11_street_17 : decode cX11_street 17 = .ok (.dup_x1, 1) := kd_r kbX11_street ki_98 rfl
theorem dX11_street_18 : decode cX11_street 18 = .ok (.iconst 1, 1) := kd_r kbX11_street ki_16 rfl
theorem dX11_street_19 : decode cX11_street 19 = .ok (.iadd, 1) := kd_r kbX11_street ki_30 rfl
theorem dX11_street_20 : decode cX11_street 20 = .ok (.putfield 90, 3) := kd_r kbX11_street ki_523 rfl
theorem dX11_street_23 : decode cX11_street 23 = .ok (.goto 5, 3) := kd_r kbX11_street ki_342 rfl
theorem dX11_street_26 : decode cX11_street 26 = .ok (.bipush (-3), 2) := kd_r kbX11_street ki_293 rfl
theorem dX11_street_28 : decode cX11_street 28 = .ok (.ireturn, 1) := kd_r kbX11_street ki_7 rfl
set_option maxRecDepth 20000 in
theorem ggX11_plot_X11_knownStreet : GoodIn wsX11_plot wsX11_knownStreet := goodIn_r _ [5, 6, 7, 38, 39, 40, 41, 42, 43, 44, 45, 46, 47, 48, 49, 50, 51] rfl (by decide +kernel)
set_option maxRecDepth 20000 in
theorem gX11_plot_X11_knownStreet : GoodIn wsX11_plot (wsV RX11 94 RX11 yX11_knownStreet wsX11_knownStreet) := goodIn_app (goodIn_of _ (by decide +kernel)) ggX11_plot_X11_knownStreet
set_option maxRecDepth 20000 in
theorem ggX11_plot_X9_wouldTake : GoodIn wsX11_plot wsX9_wouldTake := goodIn_r _ [12, 13, 14, 15, 16, 11, 17, 52, 53, 54, 55] rfl (by decide +kernel)
set_option maxRecDepth 20000 in
theorem gX11_plot_X9_wouldTake : GoodIn wsX11_plot (wsV RX11 98 RX9 yX9_wouldTake wsX9_wouldTake) := goodIn_app (goodIn_of _ (by decide +kernel)) ggX11_plot_X9_wouldTake
set_option maxRecDepth 20000 in
theorem ggX11_plot_X9_isFull : GoodIn wsX11_plot wsX9_isFull := goodIn_r _ [21, 13, 52, 53, 54, 55] rfl (by decide +kernel)
set_option maxRecDepth 20000 in
theorem gX11_plot_X9_isFull : GoodIn wsX11_plot (wsV RX11 102 RX9 yX9_isFull wsX9_isFull) := goodIn_app (goodIn_of _ (by decide +kernel)) ggX11_plot_X9_isFull
set_option maxRecDepth 20000 in
theorem ggX11_plot_X9_append : GoodIn wsX11_plot wsX9_append := goodIn_r _ [25, 13, 26, 27, 28, 11, 29, 30, 31, 32, 33, 19, 20, 21, 52, 53, 54, 55] rfl (by decide +kernel)
set_option maxRecDepth 20000 in
theorem gX11_plot_X9_append : GoodIn wsX11_plot (wsV RX11 106 RX9 yX9_append wsX9_append) := goodIn_app (goodIn_of _ (by decide +kernel)) ggX11_plot_X9_append
set_option maxRecDepth 20000 in
theorem ggX11_plot_X9_size : GoodIn wsX11_plot wsX9_size := goodIn_r _ [37, 13, 52, 53, 54, 55] rfl (by decide +kernel)
set_option maxRecDepth 20000 in
theorem gX11_plot_X9_size : GoodIn wsX11_plot (wsV RX11 110 RX9 yX9_size wsX9_size) := goodIn_app (goodIn_of _ (by decide +kernel)) ggX11_plot_X9_size
theorem dX11_plot_0 : decode cX11_plot 0 = .ok (.aload_n 0, 1) := kd_r kbX11_plot ki_0 rfl
theorem dX11_plot_1 : decode cX11_plot 1 = .ok (.iload_n 1, 1) := kd_r kbX11_plot ki_8 rfl
theorem dX11_plot_2 : decode cX11_plot 2 = .ok (.invokevirtual 94, 3) := kd_r kbX11_plot ki_524 rfl
theorem dX11_plot_5 : decode cX11_plot 5 = .ok (.astore 4, 2) := kd_r kbX11_plot ki_525 rfl
theorem dX11_plot_7 : decode cX11_plot 7 = .ok (.aload 4, 2) := kd_r kbX11_plot ki_526 rfl
theorem dX11_plot_9 : decode cX11_plot 9 = .ok (.ifnull 7, 3) := kd_r kbX11_plot ki_527 rfl
theorem dX11_plot_12 : decode cX11_plot 12 = .ok (.iload_n 3, 1) := kd_r kbX11_plot ki_55 rfl
theorem dX11_plot_13 : decode cX11_plot 13 = .ok (.ifCond .ge 5, 3) := kd_r kbX11_plot ki_528 rfl
theorem dX11_plot_16 : decode cX11_plot 16 = .ok (.iconst (-1), 1) := kd_r kbX11_plot ki_99 rfl
theorem dX11_plot_17 : decode cX11_plot 17 = .ok (.ireturn, 1) := kd_r kbX11_plot ki_7 rfl
theorem dX11_plot_18 : decode cX11_plot 18 = .ok (.iload_n 3, 1) := kd_r kbX11_plot ki_55 rfl
theorem dX11_plot_19 : decode cX11_plot 19 = .ok (.sipush 1000, 3) := kd_r kbX11_plot ki_188 rfl
theorem dX11_plot_22 : decode cX11_plot 22 = .ok (.irem, 1) := kd_r kbX11_plot ki_227 rfl
theorem dX11_plot_23 : decode cX11_plot 23 = .ok (.istore 5, 2) := kd_r kbX11_plot ki_133 rfl
theorem dX11_plot_25 : decode cX11_plot 25 = .ok (.iload_n 3, 1) := kd_r kbX11_plot ki_55 rfl
theorem dX11_plot_26 : decode cX11_plot 26 = .ok (.sipush 1000, 3) := kd_r kbX11_plot ki_188 rfl
theorem dX11_plot_29 : decode cX11_plot 29 = .ok (.idiv, 1) := kd_r kbX11_plot ki_225 rfl
theorem dX11_plot_30 : decode cX11_plot 30 = .ok (.bipush 99, 2) := kd_r kbX11_plot ki_411 rfl
theorem dX11_plot_32 : decode cX11_plot 32 = .ok (.isub, 1) := kd_r kbX11_plot ki_50 rfl
theorem dX11_plot_33 : decode cX11_plot 33 = .ok (.istore 6, 2) := kd_r kbX11_plot ki_199 rfl
theorem dX11_plot_35 : decode cX11_plot 35 = .ok (.aload 4, 2) := kd_r kbX11_plot ki_526 rfl
theorem dX11_plot_37 : decode cX11_plot 37 = .ok (.iload_n 2, 1) := kd_r kbX11_plot ki_11 rfl
theorem dX11_plot_38 : decode cX11_plot 38 = .ok (.iload 5, 2) := kd_r kbX11_plot ki_134 rfl
theorem dX11_plot_40 : decode cX11_plot 40 = .ok (.iload 6, 2) := kd_r kbX11_plot ki_200 rfl
theorem dX11_plot_42 : decode cX11_plot 42 = .ok (.invokevirtual 98, 3) := kd_r kbX11_plot ki_529 rfl
theorem dX11_plot_45 : decode cX11_plot 45 = .ok (.ifCond .ne 5, 3) := kd_r kbX11_plot ki_36 rfl
theorem dX11_plot_48 : decode cX11_plot 48 = .ok (.iconst (-1), 1) := kd_r kbX11_plot ki_99 rfl
theorem dX11_plot_49 : decode cX11_plot 49 = .ok (.ireturn, 1) := kd_r kbX11_plot ki_7 rfl
theorem dX11_plot_50 : decode cX11_plot 50 = .ok (.aload 4, 2) := kd_r kbX11_plot ki_526 rfl
theorem dX11_plot_52 : decode cX11_plot 52 = .ok (.invokevirtual 102, 3) := kd_r kbX11_plot ki_530 rfl
theorem dX11_plot_55 : decode cX11_plot 55 = .ok (.ifCond .eq 6, 3) := kd_r kbX11_plot ki_292 rfl
theorem dX11_plot_58 : decode cX11_plot 58 = .ok (.bipush (-3), 2) := kd_r kbX11_plot ki_293 rfl
theorem dX11_plot_60 : decode cX11_plot 60 = .ok (.ireturn, 1) := kd_r kbX11_plot ki_7 rfl
theorem dX11_plot_61 : decode cX11_plot 61 = .ok (.aload 4, 2) := kd_r kbX11_plot ki_526 rfl
theorem dX11_plot_63 : decode cX11_plot 63 = .ok (.iload_n 2, 1) := kd_r kbX11_plot ki_11 rfl
theorem dX11_plot_64 : decode cX11_plot 64 = .ok (.iload 5, 2) := kd_r kbX11_plot ki_134 rfl
theorem dX11_plot_66 : decode cX11_plot 66 = .ok (.iload 6, 2) := kd_r kbX11_plot ki_200 rfl
theorem dX11_plot_68 : decode cX11_plot 68 = .ok (.invokevirtual 106, 3) := kd_r kbX11_plot ki_531 rfl
theorem dX11_plot_71 : decode cX11_plot 71 = .ok (.aload 4, 2) := kd_r kbX11_plot ki_526 rfl
theorem dX11_plot_73 : decode cX11_plot 73 = .ok (.invokevirtual 110, 3) := kd_r kbX11_plot ki_532 rfl
theorem dX11_plot_76 : decode cX11_plot 76 = .ok (.iconst 1, 1) := kd_r kbX11_plot ki_16 rfl
theorem dX11_plot_77 : decode cX11_plot 77 = .ok (.isub, 1) := kd_r kbX11_plot ki_50 rfl
theorem dX11_plot_78 : decode cX11_plot 78 = .ok (.ireturn, 1) := kd_r kbX11_plot ki_7 rfl
set_option maxRecDepth 20000 in
theorem ggX11_plots_X11_knownStreet : GoodIn wsX11_plots wsX11_knownStreet := goodIn_r _ [5, 6, 7, 63, 64, 65, 66, 67, 68, 69, 70, 71, 72, 73, 74, 75, 76] rfl (by decide +kernel)
set_option maxRecDepth 20000 in
theorem gX11_plots_X11_knownStreet : GoodIn wsX11_plots (wsV RX11 94 RX11 yX11_knownStreet wsX11_knownStreet) := goodIn_app (goodIn_of _ (by decide +kernel)) ggX11_plots_X11_knownStreet
set_option maxRecDepth 20000 in
theorem ggX11_plots_X11_knownShelf : GoodIn wsX11_plots wsX11_knownShelf := goodIn_r _ [11, 12, 63, 64, 65, 66, 67, 68, 69, 70, 71, 72, 73, 74, 75, 76] rfl (by decide +kernel)
set_option maxRecDepth 20000 in
theorem gX11_plots_X11_knownShelf : GoodIn wsX11_plots (wsV RX11 114 RX11 yX11_knownShelf wsX11_knownShelf) := goodIn_app (goodIn_of _ (by decide +kernel)) ggX11_plots_X11_knownShelf
set_option maxRecDepth 20000 in
theorem ggX11_plots_X8_isEmpty : GoodIn wsX11_plots wsX8_isEmpty := goodIn_r _ [17, 18, 77, 78, 79, 80] rfl (by decide +kernel)
set_option maxRecDepth 20000 in
theorem gX11_plots_X8_isEmpty : GoodIn wsX11_plots (wsV RX11 118 RX8 yX8_isEmpty wsX8_isEmpty) := goodIn_app (goodIn_of _ (by decide +kernel)) ggX11_plots_X8_isEmpty
set_option maxRecDepth 20000 in
theorem ggX11_plots_X8_holdsShorts : GoodIn wsX11_plots wsX8_holdsShorts := goodIn_r _ [22, 18, 77, 78, 79, 80] rfl (by decide +kernel)
set_option maxRecDepth 20000 in
theorem gX11_plots_X8_holdsShorts : GoodIn wsX11_plots (wsV RX11 121 RX8 yX8_holdsShorts wsX8_holdsShorts) := goodIn_app (goodIn_of _ (by decide +kernel)) ggX11_plots_X8_holdsShorts
set_option maxRecDepth 20000 in
theorem ggX11_plots_X11_plotCame : GoodIn wsX11_plots wsX11_plotCame := goodIn_r _ [25, 26, 27, 28, 29, 30, 31, 32, 33, 34, 16, 35, 36, 37, 38, 39, 40, 41, 42, 43, 44, 45, 46, 47, 48, 49, 50, 51, 52, 53, 54, 55, 56, 57, 58, 59, 60, 61, 62, 81, 82, 83, 84, 77, 78, 79, 80] rfl (by decide +kernel)
set_option maxRecDepth 20000 in
theorem gX11_plots_X11_plotCame : GoodIn wsX11_plots (va_wsS RX11 124 yX11_plotCame wsX11_plotCame) := goodIn_app (goodIn_of _ (by decide +kernel)) ggX11_plots_X11_plotCame
theorem dX11_plots_0 : decode cX11_plots 0 = .ok (.aload_n 0, 1) := kd_r kbX11_plots ki_0 rfl
theorem dX11_plots_1 : decode cX11_plots 1 = .ok (.iload_n 1, 1) := kd_r kbX11_plots ki_8 rfl
theorem dX11_plots_2 : decode cX11_plots 2 = .ok (.invokevirtual 94, 3) := kd_r kbX11_plots ki_524 rfl
theorem dX11_plots_5 : decode cX11_plots 5 = .ok (.astore 5, 2) := kd_r kbX11_plots ki_150 rfl
theorem dX11_plots_7 : decode cX11_plots 7 = .ok (.aload_n 0, 1) := kd_r kbX11_plots ki_0 rfl
theorem dX11_plots_8 : decode cX11_plots 8 = .ok (.iload_n 2, 1) := kd_r kbX11_plots ki_11 rfl
theorem dX11_plots_9 : decode cX11_plots 9 = .ok (.invokevirtual 114, 3) := kd_r kbX11_plots ki_533 rfl
theorem dX11_plots_12 : decode cX11_plots 12 = .ok (.astore 6, 2) := kd_r kbX11_plots ki_151 rfl
theorem dX11_plots_14 : decode cX11_plots 14 = .ok (.aload 5, 2) := kd_r kbX11_plots ki_160 rfl
theorem dX11_plots_16 : decode cX11_plots 16 = .ok (.ifnull 21, 3) := kd_r kbX11_plots ki_534 rfl
theorem dX11_plots_19 : decode cX11_plots 19 = .ok (.aload 6, 2) := kd_r kbX11_plots ki_161 rfl
theorem dX11_plots_21 : decode cX11_plots 21 = .ok (.ifnull 16, 3) := kd_r kbX11_plots ki_535 rfl
theorem dX11_plots_24 : decode cX11_plots 24 = .ok (.iload 4, 2) := kd_r kbX11_plots ki_57 rfl
theorem dX11_plots_26 : decode cX11_plots 26 = .ok (.iconst 1, 1) := kd_r kbX11_plots ki_16 rfl
theorem dX11_plots_27 : decode cX11_plots 27 = .ok (.if_icmp .lt 10, 3) := kd_r kbX11_plots ki_536 rfl
theorem dX11_plots_30 : decode cX11_plots 30 = .ok (.iload 4, 2) := kd_r kbX11_plots ki_57 rfl
theorem dX11_plots_32 : decode cX11_plots 32 = .ok (.bipush 20, 2) := kd_r kbX11_plots ki_537 rfl
theorem dX11_plots_34 : decode cX11_plots 34 = .ok (.if_icmp .le 5, 3) := kd_r kbX11_plots ki_106 rfl
theorem dX11_plots_37 : decode cX11_plots 37 = .ok (.iconst (-1), 1) := kd_r kbX11_plots ki_99 rfl
theorem dX11_plots_38 : decode cX11_plots 38 = .ok (.ireturn, 1) := kd_r kbX11_plots ki_7 rfl
theorem dX11_plots_39 : decode cX11_plots 39 = .ok (.aload 6, 2) := kd_r kbX11_plots ki_161 rfl
theorem dX11_plots_41 : decode cX11_plots 41 = .ok (.invokevirtual 118, 3) := kd_r kbX11_plots ki_538 rfl
theorem dX11_plots_44 : decode cX11_plots 44 = .ok (.ifCond .eq 5, 3) := kd_r kbX11_plots ki_539 rfl
theorem dX11_plots_47 : decode cX11_plots 47 = .ok (.iconst 0, 1) := kd_r kbX11_plots ki_20 rfl
theorem dX11_plots_48 : decode cX11_plots 48 = .ok (.ireturn, 1) := kd_r kbX11_plots ki_7 rfl
theorem dX11_plots_49 : decode cX11_plots 49 = .ok (.aload 6, 2) := kd_r kbX11_plots ki_161 rfl
theorem dX11_plots_51 : decode cX11_plots 51 = .ok (.invokevirtual 121, 3) := kd_r kbX11_plots ki_540 rfl
theorem dX11_plots_54 : decode cX11_plots 54 = .ok (.ifCond .ne 6, 3) := kd_r kbX11_plots ki_388 rfl
theorem dX11_plots_57 : decode cX11_plots 57 = .ok (.bipush (-12), 2) := kd_r kbX11_plots ki_389 rfl
theorem dX11_plots_59 : decode cX11_plots 59 = .ok (.ireturn, 1) := kd_r kbX11_plots ki_7 rfl
theorem dX11_plots_60 : decode cX11_plots 60 = .ok (.iconst 0, 1) := kd_r kbX11_plots ki_20 rfl
theorem dX11_plots_61 : decode cX11_plots 61 = .ok (.istore 7, 2) := kd_r kbX11_plots ki_152 rfl
theorem dX11_plots_63 : decode cX11_plots 63 = .ok (.iload 7, 2) := kd_r kbX11_plots ki_153 rfl
theorem dX11_plots_65 : decode cX11_plots 65 = .ok (.iload 4, 2) := kd_r kbX11_plots ki_57 rfl
theorem dX11_plots_67 : decode cX11_plots 67 = .ok (.if_icmp .ge 25, 3) := kd_r kbX11_plots ki_358 rfl
theorem dX11_plots_70 : decode cX11_plots 70 = .ok (.aload 5, 2) := kd_r kbX11_plots ki_160 rfl
theorem dX11_plots_72 : decode cX11_plots 72 = .ok (.aload 6, 2) := kd_r kbX11_plots ki_161 rfl
theorem dX11_plots_74 : decode cX11_plots 74 = .ok (.iload_n 3, 1) := kd_r kbX11_plots ki_55 rfl
theorem dX11_plots_75 : decode cX11_plots 75 = .ok (.iconst 3, 1) := kd_r kbX11_plots ki_246 rfl
theorem dX11_plots_76 : decode cX11_plots 76 = .ok (.iload 7, 2) := kd_r kbX11_plots ki_153 rfl
theorem dX11_plots_78 : decode cX11_plots 78 = .ok (.imul, 1) := kd_r kbX11_plots ki_114 rfl
theorem dX11_plots_79 : decode cX11_plots 79 = .ok (.iadd, 1) := kd_r kbX11_plots ki_30 rfl
theorem dX11_plots_80 : decode cX11_plots 80 = .ok (.invokestatic 124, 3) := kd_r kbX11_plots ki_186 rfl
theorem dX11_plots_83 : decode cX11_plots 83 = .ok (.ifCond .eq 9, 3) := kd_r kbX11_plots ki_472 rfl
theorem dX11_plots_86 : decode cX11_plots 86 = .ok (.iinc 7 1, 3) := kd_r kbX11_plots ki_164 rfl
theorem dX11_plots_89 : decode cX11_plots 89 = .ok (.goto (-26), 3) := kd_r kbX11_plots ki_541 rfl
theorem dX11_plots_92 : decode cX11_plots 92 = .ok (.iload 7, 2) := kd_r kbX11_plots ki_153 rfl
theorem dX11_plots_94 : decode cX11_plots 94 = .ok (.ireturn, 1) := kd_r kbX11_plots ki_7 rfl
set_option maxRecDepth 20000 in
theorem ggX11_mend_X11_knownStreet : GoodIn wsX11_mend wsX11_knownStreet := goodIn_r _ [7, 8, 9, 51, 52, 53, 54, 55, 56, 57, 58, 59, 60, 61, 62, 63, 64] rfl (by decide +kernel)
set_option maxRecDepth 20000 in
theorem gX11_mend_X11_knownStreet : GoodIn wsX11_mend (wsV RX11 94 RX11 yX11_knownStreet wsX11_knownStreet) := goodIn_app (goodIn_of _ (by decide +kernel)) ggX11_mend_X11_knownStreet
set_option maxRecDepth 20000 in
theorem ggX11_mend_X9_has : GoodIn wsX11_mend wsX9_has := goodIn_r _ [14, 15, 65, 66, 67, 68] rfl (by decide +kernel)
set_option maxRecDepth 20000 in
theorem gX11_mend_X9_has : GoodIn wsX11_mend (wsV RX11 128 RX9 yX9_has wsX9_has) := goodIn_app (goodIn_of _ (by decide +kernel)) ggX11_mend_X9_has
set_option maxRecDepth 20000 in
theorem ggX11_mend_X9_allows : GoodIn wsX11_mend wsX9_allows := goodIn_r _ [19] rfl (by decide +kernel)
set_option maxRecDepth 20000 in
theorem gX11_mend_X9_allows : GoodIn wsX11_mend (wsV RX11 132 RX9 yX9_allows wsX9_allows) := goodIn_app (goodIn_of _ (by decide +kernel)) ggX11_mend_X9_allows
set_option maxRecDepth 20000 in
theorem ggX11_mend_X9_fact : GoodIn wsX11_mend wsX9_fact := goodIn_r _ [23, 24, 11, 12, 13, 14, 15, 25, 26, 27, 28, 29, 30, 31, 65, 66, 67, 68] rfl (by decide +kernel)
set_option maxRecDepth 20000 in
theorem gX11_mend_X9_fact : GoodIn wsX11_mend (wsV RX11 136 RX9 yX9_fact wsX9_fact) := goodIn_app (goodIn_of _ (by decide +kernel)) ggX11_mend_X9_fact
set_option maxRecDepth 20000 in
theorem ggX11_mend_X9_tell : GoodIn wsX11_mend wsX9_tell := goodIn_r _ [35, 24, 11, 12, 13, 14, 15, 25, 26, 27, 28, 29, 30, 31, 65, 66, 67, 68] rfl (by decide +kernel)
set_option maxRecDepth 20000 in
theorem gX11_mend_X9_tell : GoodIn wsX11_mend (wsV RX11 140 RX9 yX9_tell wsX9_tell) := goodIn_app (goodIn_of _ (by decide +kernel)) ggX11_mend_X9_tell
set_option maxRecDepth 20000 in
theorem ggX11_mend_X1_remember : GoodIn wsX11_mend wsX1_remember := goodIn_r _ [40, 41, 42, 43, 44, 45, 46, 47, 48, 49, 39, 50, 69, 70, 71, 72, 73, 74] rfl (by decide +kernel)
set_option maxRecDepth 20000 in
theorem gX11_mend_X1_remember : GoodIn wsX11_mend (wsV RX11 143 RX1 yX1_remember wsX1_remember) := goodIn_app (goodIn_of _ (by decide +kernel)) ggX11_mend_X1_remember
theorem dX11_mend_0 : decode cX11_mend 0 = .ok (.iload_n 1, 1) := kd_r kbX11_mend ki_8 rfl
theorem dX11_mend_1 : decode cX11_mend 1 = .ok (.ifCond .ge 7, 3) := kd_r kbX11_mend ki_382 rfl
theorem dX11_mend_4 : decode cX11_mend 4 = .ok (.aconst_null, 1) := kd_r kbX11_mend ki_542 rfl
theorem dX11_mend_5 : decode cX11_mend 5 = .ok (.goto 11, 3) := kd_r kbX11_mend ki_240 rfl
theorem dX11_mend_8 : decode cX11_mend 8 = .ok (.aload_n 0, 1) := kd_r kbX11_mend ki_0 rfl
theorem dX11_mend_9 : decode cX11_mend 9 = .ok (.iload_n 1, 1) := kd_r kbX11_mend ki_8 rfl
theorem dX11_mend_10 : decode cX11_mend 10 = .ok (.bipush 100, 2) := kd_r kbX11_mend ki_228 rfl
theorem dX11_mend_12 : decode cX11_mend 12 = .ok (.idiv, 1) := kd_r kbX11_mend ki_225 rfl
theorem dX11_mend_13 : decode cX11_mend 13 = .ok (.invokevirtual 94, 3) := kd_r kbX11_mend ki_524 rfl
theorem dX11_mend_16 : decode cX11_mend 16 = .ok (.astore 4, 2) := kd_r kbX11_mend ki_525 rfl
theorem dX11_mend_18 : decode cX11_mend 18 = .ok (.iload_n 1, 1) := kd_r kbX11_mend ki_8 rfl
theorem dX11_mend_19 : decode cX11_mend 19 = .ok (.bipush 100, 2) := kd_r kbX11_mend ki_228 rfl
theorem dX11_mend_21 : decode cX11_mend 21 = .ok (.irem, 1) := kd_r kbX11_mend ki_227 rfl
theorem dX11_mend_22 : decode cX11_mend 22 = .ok (.istore 5, 2) := kd_r kbX11_mend ki_133 rfl
theorem dX11_mend_24 : decode cX11_mend 24 = .ok (.aload 4, 2) := kd_r kbX11_mend ki_526 rfl
theorem dX11_mend_26 : decode cX11_mend 26 = .ok (.ifnull 34, 3) := kd_r kbX11_mend ki_543 rfl
theorem dX11_mend_29 : decode cX11_mend 29 = .ok (.aload 4, 2) := kd_r kbX11_mend ki_526 rfl
theorem dX11_mend_31 : decode cX11_mend 31 = .ok (.iload 5, 2) := kd_r kbX11_mend ki_134 rfl
theorem dX11_mend_33 : decode cX11_mend 33 = .ok (.invokevirtual 128, 3) := kd_r kbX11_mend ki_544 rfl
theorem dX11_mend_36 : decode cX11_mend 36 = .ok (.ifCond .eq 24, 3) := kd_r kbX11_mend ki_432 rfl
theorem dX11_mend_39 : decode cX11_mend 39 = .ok (.iload_n 2, 1) := kd_r kbX11_mend ki_11 rfl
theorem dX11_mend_40 : decode cX11_mend 40 = .ok (.ifCond .lt 20, 3) := kd_r kbX11_mend ki_545 rfl
theorem dX11_mend_43 : decode cX11_mend 43 = .ok (.iload_n 2, 1) := kd_r kbX11_mend ki_11 rfl
theorem dX11_mend_44 : decode cX11_mend 44 = .ok (.iconst 2, 1) := kd_r kbX11_mend ki_244 rfl
theorem dX11_mend_45 : decode cX11_mend 45 = .ok (.if_icmp .gt 15, 3) := kd_r kbX11_mend ki_546 rfl
theorem dX11_mend_48 : decode cX11_mend 48 = .ok (.aload 4, 2) := kd_r kbX11_mend ki_526 rfl
theorem dX11_mend_50 : decode cX11_mend 50 = .ok (.iload_n 2, 1) := kd_r kbX11_mend ki_11 rfl
theorem dX11_mend_51 : decode cX11_mend 51 = .ok (.iload 5, 2) := kd_r kbX11_mend ki_134 rfl
theorem dX11_mend_53 : decode cX11_mend 53 = .ok (.iload_n 3, 1) := kd_r kbX11_mend ki_55 rfl
theorem dX11_mend_54 : decode cX11_mend 54 = .ok (.invokevirtual 132, 3) := kd_r kbX11_mend ki_547 rfl
theorem dX11_mend_57 : decode cX11_mend 57 = .ok (.ifCond .ne 6, 3) := kd_r kbX11_mend ki_388 rfl
theorem dX11_mend_60 : decode cX11_mend 60 = .ok (.ldc 135, 2) := kd_r kbX11_mend ki_548 rfl
theorem dX11_mend_62 : decode cX11_mend 62 = .ok (.ireturn, 1) := kd_r kbX11_mend ki_7 rfl
theorem dX11_mend_63 : decode cX11_mend 63 = .ok (.aload 4, 2) := kd_r kbX11_mend ki_526 rfl
theorem dX11_mend_65 : decode cX11_mend 65 = .ok (.iload_n 2, 1) := kd_r kbX11_mend ki_11 rfl
theorem dX11_mend_66 : decode cX11_mend 66 = .ok (.iload 5, 2) := kd_r kbX11_mend ki_134 rfl
theorem dX11_mend_68 : decode cX11_mend 68 = .ok (.invokevirtual 136, 3) := kd_r kbX11_mend ki_549 rfl
theorem dX11_mend_71 : decode cX11_mend 71 = .ok (.istore 6, 2) := kd_r kbX11_mend ki_199 rfl
theorem dX11_mend_73 : decode cX11_mend 73 = .ok (.iload 6, 2) := kd_r kbX11_mend ki_200 rfl
theorem dX11_mend_75 : decode cX11_mend 75 = .ok (.iload_n 3, 1) := kd_r kbX11_mend ki_55 rfl
theorem dX11_mend_76 : decode cX11_mend 76 = .ok (.if_icmp .eq 24, 3) := kd_r kbX11_mend ki_550 rfl
theorem dX11_mend_79 : decode cX11_mend 79 = .ok (.aload 4, 2) := kd_r kbX11_mend ki_526 rfl
theorem dX11_mend_81 : decode cX11_mend 81 = .ok (.iload_n 2, 1) := kd_r kbX11_mend ki_11 rfl
theorem dX11_mend_82 : decode cX11_mend 82 = .ok (.iload 5, 2) := kd_r kbX11_mend ki_134 rfl
theorem dX11_mend_84 : decode cX11_mend 84 = .ok (.iload_n 3, 1) := kd_r kbX11_mend ki_55 rfl
theorem dX11_mend_85 : decode cX11_mend 85 = .ok (.invokevirtual 140, 3) := kd_r kbX11_mend ki_551 rfl
theorem dX11_mend_88 : decode cX11_mend 88 = .ok (.aload_n 0, 1) := kd_r kbX11_mend ki_0 rfl
theorem dX11_mend_89 : decode cX11_mend 89 = .ok (.getfield 23, 3) := kd_r kbX11_mend ki_327 rfl
theorem dX11_mend_92 : decode cX11_mend 92 = .ok (.iload_n 1, 1) := kd_r kbX11_mend ki_8 rfl
theorem dX11_mend_93 : decode cX11_mend 93 = .ok (.iload_n 2, 1) := kd_r kbX11_mend ki_11 rfl
theorem dX11_mend_94 : decode cX11_mend 94 = .ok (.iload 6, 2) := kd_r kbX11_mend ki_200 rfl
theorem dX11_mend_96 : decode cX11_mend 96 = .ok (.iload_n 3, 1) := kd_r kbX11_mend ki_55 rfl
theorem dX11_mend_97 : decode cX11_mend 97 = .ok (.invokevirtual 143, 3) := kd_r kbX11_mend ki_552 rfl
theorem dX11_mend_100 : decode cX11_mend 100 = .ok (.iload 6, 2) := kd_r kbX11_mend ki_200 rfl
theorem dX11_mend_102 : decode cX11_mend 102 = .ok (.ireturn, 1) := kd_r kbX11_mend ki_7 rfl
set_option maxRecDepth 20000 in
theorem ggX11_of_X11_knownStreet : GoodIn wsX11_of wsX11_knownStreet := goodIn_r _ [6, 7, 8, 39, 40, 41, 42, 43, 44, 45, 46, 47, 48, 49, 50, 51, 52] rfl (by decide +kernel)
set_option maxRecDepth 20000 in
theorem gX11_of_X11_knownStreet : GoodIn wsX11_of (wsV RX11 94 RX11 yX11_knownStreet wsX11_knownStreet) := goodIn_app (goodIn_of _ (by decide +kernel)) ggX11_of_X11_knownStreet
set_option maxRecDepth 20000 in
theorem ggX11_of_X9_size : GoodIn wsX11_of wsX9_size := goodIn_r _ [13, 14, 53, 54, 55, 56] rfl (by decide +kernel)
set_option maxRecDepth 20000 in
theorem gX11_of_X9_size : GoodIn wsX11_of (wsV RX11 110 RX9 yX9_size wsX9_size) := goodIn_app (goodIn_of _ (by decide +kernel)) ggX11_of_X9_size
set_option maxRecDepth 20000 in
theorem ggX11_of_X9_begin : GoodIn wsX11_of wsX9_begin := goodIn_r _ [18, 14, 19, 53, 54, 55, 56] rfl (by decide +kernel)
set_option maxRecDepth 20000 in
theorem gX11_of_X9_begin : GoodIn wsX11_of (wsV RX11 147 RX9 yX9_begin wsX9_begin) := goodIn_app (goodIn_of _ (by decide +kernel)) ggX11_of_X9_begin
set_option maxRecDepth 20000 in
theorem ggX11_of_X9_kinks : GoodIn wsX11_of wsX9_kinks := goodIn_r _ [23, 14, 24, 53, 54, 55, 56] rfl (by decide +kernel)
set_option maxRecDepth 20000 in
theorem gX11_of_X9_kinks : GoodIn wsX11_of (wsV RX11 151 RX9 yX9_kinks wsX9_kinks) := goodIn_app (goodIn_of _ (by decide +kernel)) ggX11_of_X9_kinks
set_option maxRecDepth 20000 in
theorem ggX11_of_X9_has : GoodIn wsX11_of wsX9_has := goodIn_r _ [28, 14, 53, 54, 55, 56] rfl (by decide +kernel)
set_option maxRecDepth 20000 in
theorem gX11_of_X9_has : GoodIn wsX11_of (wsV RX11 128 RX9 yX9_has wsX9_has) := goodIn_app (goodIn_of _ (by decide +kernel)) ggX11_of_X9_has
set_option maxRecDepth 20000 in
theorem ggX11_of_X9_fact : GoodIn wsX11_of wsX9_fact := goodIn_r _ [32, 33, 26, 27, 12, 28, 14, 34, 35, 36, 37, 19, 38, 24, 53, 54, 55, 56] rfl (by decide +kernel)
set_option maxRecDepth 20000 in
theorem gX11_of_X9_fact : GoodIn wsX11_of (wsV RX11 136 RX9 yX9_fact wsX9_fact) := goodIn_app (goodIn_of _ (by decide +kernel)) ggX11_of_X9_fact
theorem dX11_of_0 : decode cX11_of 0 = .ok (.aload_n 0, 1) := kd_r kbX11_of ki_0 rfl
theorem dX11_of_1 : decode cX11_of 1 = .ok (.iload_n 1, 1) := kd_r kbX11_of ki_8 rfl
theorem dX11_of_2 : decode cX11_of 2 = .ok (.invokevirtual 94, 3) := kd_r kbX11_of ki_524 rfl
theorem dX11_of_5 : decode cX11_of 5 = .ok (.astore_n 3, 1) := kd_r kbX11_of ki_553 rfl
theorem dX11_of_6 : decode cX11_of 6 = .ok (.aload_n 3, 1) := kd_r kbX11_of ki_554 rfl
theorem dX11_of_7 : decode cX11_of 7 = .ok (.ifnull 7, 3) := kd_r kbX11_of ki_527 rfl
theorem dX11_of_10 : decode cX11_of 10 = .ok (.iload_n 2, 1) := kd_r kbX11_of ki_11 rfl
theorem dX11_of_11 : decode cX11_of 11 = .ok (.ifCond .ge 6, 3) := kd_r kbX11_of ki_555 rfl
theorem dX11_of_14 : decode cX11_of 14 = .ok (.ldc 135, 2) := kd_r kbX11_of ki_548 rfl
theorem dX11_of_16 : decode cX11_of 16 = .ok (.ireturn, 1) := kd_r kbX11_of ki_7 rfl
theorem dX11_of_17 : decode cX11_of 17 = .ok (.iload_n 2, 1) := kd_r kbX11_of ki_11 rfl
theorem dX11_of_18 : decode cX11_of 18 = .ok (.iconst 2, 1) := kd_r kbX11_of ki_244 rfl
theorem dX11_of_19 : decode cX11_of 19 = .ok (.if_icmp .gt 35, 3) := kd_r kbX11_of ki_556 rfl
theorem dX11_of_22 : decode cX11_of 22 = .ok (.iload_n 2, 1) := kd_r kbX11_of ki_11 rfl
theorem dX11_of_23 : decode cX11_of 23 = .ok (.ifCond .ne 10, 3) := kd_r kbX11_of ki_414 rfl
theorem dX11_of_26 : decode cX11_of 26 = .ok (.aload_n 3, 1) := kd_r kbX11_of ki_554 rfl
theorem dX11_of_27 : decode cX11_of 27 = .ok (.invokevirtual 110, 3) := kd_r kbX11_of ki_532 rfl
theorem dX11_of_30 : decode cX11_of 30 = .ok (.goto 23, 3) := kd_r kbX11_of ki_557 rfl
theorem dX11_of_33 : decode cX11_of 33 = .ok (.iload_n 2, 1) := kd_r kbX11_of ki_11 rfl
theorem dX11_of_34 : decode cX11_of 34 = .ok (.iconst 1, 1) := kd_r kbX11_of ki_16 rfl
theorem dX11_of_35 : decode cX11_of 35 = .ok (.if_icmp .ne 14, 3) := kd_r kbX11_of ki_558 rfl
theorem dX11_of_38 : decode cX11_of 38 = .ok (.aload_n 3, 1) := kd_r kbX11_of ki_554 rfl
theorem dX11_of_39 : decode cX11_of 39 = .ok (.aload_n 3, 1) := kd_r kbX11_of ki_554 rfl
theorem dX11_of_40 : decode cX11_of 40 = .ok (.invokevirtual 110, 3) := kd_r kbX11_of ki_532 rfl
theorem dX11_of_43 : decode cX11_of 43 = .ok (.invokevirtual 147, 3) := kd_r kbX11_of ki_559 rfl
theorem dX11_of_46 : decode cX11_of 46 = .ok (.goto 7, 3) := kd_r kbX11_of ki_416 rfl
theorem dX11_of_49 : decode cX11_of 49 = .ok (.aload_n 3, 1) := kd_r kbX11_of ki_554 rfl
theorem dX11_of_50 : decode cX11_of 50 = .ok (.invokevirtual 151, 3) := kd_r kbX11_of ki_560 rfl
theorem dX11_of_53 : decode cX11_of 53 = .ok (.ireturn, 1) := kd_r kbX11_of ki_7 rfl
theorem dX11_of_54 : decode cX11_of 54 = .ok (.iload_n 2, 1) := kd_r kbX11_of ki_11 rfl
theorem dX11_of_55 : decode cX11_of 55 = .ok (.bipush 100, 2) := kd_r kbX11_of ki_228 rfl
theorem dX11_of_57 : decode cX11_of 57 = .ok (.irem, 1) := kd_r kbX11_of ki_227 rfl
theorem dX11_of_58 : decode cX11_of 58 = .ok (.istore 4, 2) := kd_r kbX11_of ki_129 rfl
theorem dX11_of_60 : decode cX11_of 60 = .ok (.iload_n 2, 1) := kd_r kbX11_of ki_11 rfl
theorem dX11_of_61 : decode cX11_of 61 = .ok (.bipush 100, 2) := kd_r kbX11_of ki_228 rfl
theorem dX11_of_63 : decode cX11_of 63 = .ok (.if_icmp .lt 19, 3) := kd_r kbX11_of ki_561 rfl
theorem dX11_of_66 : decode cX11_of 66 = .ok (.iload_n 2, 1) := kd_r kbX11_of ki_11 rfl
theorem dX11_of_67 : decode cX11_of 67 = .ok (.sipush 500, 3) := kd_r kbX11_of ki_562 rfl
theorem dX11_of_70 : decode cX11_of 70 = .ok (.if_icmp .ge 12, 3) := kd_r kbX11_of ki_298 rfl
theorem dX11_of_73 : decode cX11_of 73 = .ok (.aload_n 3, 1) := kd_r kbX11_of ki_554 rfl
theorem dX11_of_74 : decode cX11_of 74 = .ok (.iload 4, 2) := kd_r kbX11_of ki_57 rfl
theorem dX11_of_76 : decode cX11_of 76 = .ok (.invokevirtual 128, 3) := kd_r kbX11_of ki_544 rfl
theorem dX11_of_79 : decode cX11_of 79 = .ok (.ifCond .ne 6, 3) := kd_r kbX11_of ki_388 rfl
theorem dX11_of_82 : decode cX11_of 82 = .ok (.ldc 135, 2) := kd_r kbX11_of ki_548 rfl
theorem dX11_of_84 : decode cX11_of 84 = .ok (.ireturn, 1) := kd_r kbX11_of ki_7 rfl
theorem dX11_of_85 : decode cX11_of 85 = .ok (.iload_n 2, 1) := kd_r kbX11_of ki_11 rfl
theorem dX11_of_86 : decode cX11_of 86 = .ok (.sipush 400, 3) := kd_r kbX11_of ki_563 rfl
theorem dX11_of_89 : decode cX11_of 89 = .ok (.if_icmp .lt 12, 3) := kd_r kbX11_of ki_352 rfl
theorem dX11_of_92 : decode cX11_of 92 = .ok (.aload_n 3, 1) := kd_r kbX11_of ki_554 rfl
theorem dX11_of_93 : decode cX11_of 93 = .ok (.iload 4, 2) := kd_r kbX11_of ki_57 rfl
theorem dX11_of_95 : decode cX11_of 95 = .ok (.invokevirtual 147, 3) := kd_r kbX11_of ki_559 rfl
theorem dX11_of_98 : decode cX11_of 98 = .ok (.goto 15, 3) := kd_r kbX11_of ki_383 rfl
theorem dX11_of_101 : decode cX11_of 101 = .ok (.aload_n 3, 1) := kd_r kbX11_of ki_554 rfl
theorem dX11_of_102 : decode cX11_of 102 = .ok (.iload_n 2, 1) := kd_r kbX11_of ki_11 rfl
theorem dX11_of_103 : decode cX11_of 103 = .ok (.bipush 100, 2) := kd_r kbX11_of ki_228 rfl
theorem dX11_of_105 : decode cX11_of 105 = .ok (.idiv, 1) := kd_r kbX11_of ki_225 rfl
theorem dX11_of_106 : decode cX11_of 106 = .ok (.iconst 1, 1) := kd_r kbX11_of ki_16 rfl
theorem dX11_of_107 : decode cX11_of 107 = .ok (.isub, 1) := kd_r kbX11_of ki_50 rfl
theorem dX11_of_108 : decode cX11_of 108 = .ok (.iload 4, 2) := kd_r kbX11_of ki_57 rfl
theorem dX11_of_110 : decode cX11_of 110 = .ok (.invokevirtual 136, 3) := kd_r kbX11_of ki_549 rfl
theorem dX11_of_113 : decode cX11_of 113 = .ok (.ireturn, 1) := kd_r kbX11_of ki_7 rfl
set_option maxRecDepth 20000 in
theorem ggX11_misfit_X11_knownStreet : GoodIn wsX11_misfit wsX11_knownStreet := goodIn_r _ [6, 7, 8, 48, 49, 50, 51, 52, 53, 54, 55, 56, 57, 58, 59, 60, 61] rfl (by decide +kernel)
set_option maxRecDepth 20000 in
theorem gX11_misfit_X11_knownStreet : GoodIn wsX11_misfit (wsV RX11 94 RX11 yX11_knownStreet wsX11_knownStreet) := goodIn_app (goodIn_of _ (by decide +kernel)) ggX11_misfit_X11_knownStreet
set_option maxRecDepth 20000 in
theorem ggX11_misfit_X9_hasRow : GoodIn wsX11_misfit wsX9_hasRow := goodIn_r _ [13, 14, 15, 16, 12, 17, 18, 62, 63, 64, 65] rfl (by decide +kernel)
set_option maxRecDepth 20000 in
theorem gX11_misfit_X9_hasRow : GoodIn wsX11_misfit (wsV RX11 154 RX9 yX9_hasRow wsX9_hasRow) := goodIn_app (goodIn_of _ (by decide +kernel)) ggX11_misfit_X9_hasRow
set_option maxRecDepth 20000 in
theorem ggX11_misfit_X7_isRod : GoodIn wsX11_misfit wsX7_isRod := goodIn_r _ [22] rfl (by decide +kernel)
set_option maxRecDepth 20000 in
theorem gX11_misfit_X7_isRod : GoodIn wsX11_misfit (va_wsS RX11 157 yX7_isRod wsX7_isRod) := goodIn_app (goodIn_of _ (by decide +kernel)) ggX11_misfit_X7_isRod
set_option maxRecDepth 20000 in
theorem ggX11_misfit_X7_isParts : GoodIn wsX11_misfit wsX7_isParts := goodIn_r _ [25] rfl (by decide +kernel)
set_option maxRecDepth 20000 in
theorem gX11_misfit_X7_isParts : GoodIn wsX11_misfit (va_wsS RX11 160 yX7_isParts wsX7_isParts) := goodIn_app (goodIn_of _ (by decide +kernel)) ggX11_misfit_X7_isParts
set_option maxRecDepth 20000 in
theorem ggX11_misfit_X7_lookAt : GoodIn wsX11_misfit wsX7_lookAt := goodIn_r _ [29, 30, 31, 32, 33, 34, 12, 35, 36, 14, 15, 16, 17, 18, 66, 67, 62, 63, 64, 65] rfl (by decide +kernel)
set_option maxRecDepth 20000 in
theorem gX11_misfit_X7_lookAt : GoodIn wsX11_misfit (wsV RX11 163 RX7 yX7_lookAt wsX7_lookAt) := goodIn_app (goodIn_of _ (by decide +kernel)) ggX11_misfit_X7_lookAt
set_option maxRecDepth 20000 in
theorem ggX11_misfit_X7_misfitBy : GoodIn wsX11_misfit wsX7_misfitBy := goodIn_r _ [40, 30, 31, 41, 42, 21, 43, 44, 45, 46, 47, 66, 67] rfl (by decide +kernel)
set_option maxRecDepth 20000 in
theorem gX11_misfit_X7_misfitBy : GoodIn wsX11_misfit (wsV RX11 167 RX7 yX7_misfitBy wsX7_misfitBy) := goodIn_app (goodIn_of _ (by decide +kernel)) ggX11_misfit_X7_misfitBy
theorem dX11_misfit_0 : decode cX11_misfit 0 = .ok (.aload_n 0, 1) := kd_r kbX11_misfit ki_0 rfl
theorem dX11_misfit_1 : decode cX11_misfit 1 = .ok (.iload_n 1, 1) := kd_r kbX11_misfit ki_8 rfl
theorem dX11_misfit_2 : decode cX11_misfit 2 = .ok (.invokevirtual 94, 3) := kd_r kbX11_misfit ki_524 rfl
theorem dX11_misfit_5 : decode cX11_misfit 5 = .ok (.astore 4, 2) := kd_r kbX11_misfit ki_525 rfl
theorem dX11_misfit_7 : decode cX11_misfit 7 = .ok (.aload 4, 2) := kd_r kbX11_misfit ki_526 rfl
theorem dX11_misfit_9 : decode cX11_misfit 9 = .ok (.ifnull 36, 3) := kd_r kbX11_misfit ki_564 rfl
theorem dX11_misfit_12 : decode cX11_misfit 12 = .ok (.aload 4, 2) := kd_r kbX11_misfit ki_526 rfl
theorem dX11_misfit_14 : decode cX11_misfit 14 = .ok (.iload_n 2, 1) := kd_r kbX11_misfit ki_11 rfl
theorem dX11_misfit_15 : decode cX11_misfit 15 = .ok (.invokevirtual 154, 3) := kd_r kbX11_misfit ki_565 rfl
theorem dX11_misfit_18 : decode cX11_misfit 18 = .ok (.ifCond .eq 27, 3) := kd_r kbX11_misfit ki_10 rfl
theorem dX11_misfit_21 : decode cX11_misfit 21 = .ok (.iload_n 3, 1) := kd_r kbX11_misfit ki_55 rfl
theorem dX11_misfit_22 : decode cX11_misfit 22 = .ok (.ifCond .lt 23, 3) := kd_r kbX11_misfit ki_473 rfl
theorem dX11_misfit_25 : decode cX11_misfit 25 = .ok (.iload_n 3, 1) := kd_r kbX11_misfit ki_55 rfl
theorem dX11_misfit_26 : decode cX11_misfit 26 = .ok (.bipush 10, 2) := kd_r kbX11_misfit ki_71 rfl
theorem dX11_misfit_28 : decode cX11_misfit 28 = .ok (.idiv, 1) := kd_r kbX11_misfit ki_225 rfl
theorem dX11_misfit_29 : decode cX11_misfit 29 = .ok (.invokestatic 157, 3) := kd_r kbX11_misfit ki_566 rfl
theorem dX11_misfit_32 : decode cX11_misfit 32 = .ok (.ifCond .eq 13, 3) := kd_r kbX11_misfit ki_413 rfl
theorem dX11_misfit_35 : decode cX11_misfit 35 = .ok (.iload_n 3, 1) := kd_r kbX11_misfit ki_55 rfl
theorem dX11_misfit_36 : decode cX11_misfit 36 = .ok (.bipush 10, 2) := kd_r kbX11_misfit ki_71 rfl
theorem dX11_misfit_38 : decode cX11_misfit 38 = .ok (.irem, 1) := kd_r kbX11_misfit ki_227 rfl
theorem dX11_misfit_39 : decode cX11_misfit 39 = .ok (.invokestatic 160, 3) := kd_r kbX11_misfit ki_567 rfl
theorem dX11_misfit_42 : decode cX11_misfit 42 = .ok (.ifCond .ne 5, 3) := kd_r kbX11_misfit ki_36 rfl
theorem dX11_misfit_45 : decode cX11_misfit 45 = .ok (.iconst (-1), 1) := kd_r kbX11_misfit ki_99 rfl
theorem dX11_misfit_46 : decode cX11_misfit 46 = .ok (.ireturn, 1) := kd_r kbX11_misfit ki_7 rfl
theorem dX11_misfit_47 : decode cX11_misfit 47 = .ok (.aload_n 0, 1) := kd_r kbX11_misfit ki_0 rfl
theorem dX11_misfit_48 : decode cX11_misfit 48 = .ok (.getfield 30, 3) := kd_r kbX11_misfit ki_568 rfl
theorem dX11_misfit_51 : decode cX11_misfit 51 = .ok (.aload 4, 2) := kd_r kbX11_misfit ki_526 rfl
theorem dX11_misfit_53 : decode cX11_misfit 53 = .ok (.iload_n 2, 1) := kd_r kbX11_misfit ki_11 rfl
theorem dX11_misfit_54 : decode cX11_misfit 54 = .ok (.invokevirtual 163, 3) := kd_r kbX11_misfit ki_569 rfl
theorem dX11_misfit_57 : decode cX11_misfit 57 = .ok (.aload_n 0, 1) := kd_r kbX11_misfit ki_0 rfl
theorem dX11_misfit_58 : decode cX11_misfit 58 = .ok (.getfield 30, 3) := kd_r kbX11_misfit ki_568 rfl
theorem dX11_misfit_61 : decode cX11_misfit 61 = .ok (.iload_n 3, 1) := kd_r kbX11_misfit ki_55 rfl
theorem dX11_misfit_62 : decode cX11_misfit 62 = .ok (.bipush 10, 2) := kd_r kbX11_misfit ki_71 rfl
theorem dX11_misfit_64 : decode cX11_misfit 64 = .ok (.idiv, 1) := kd_r kbX11_misfit ki_225 rfl
theorem dX11_misfit_65 : decode cX11_misfit 65 = .ok (.iload_n 3, 1) := kd_r kbX11_misfit ki_55 rfl
theorem dX11_misfit_66 : decode cX11_misfit 66 = .ok (.bipush 10, 2) := kd_r kbX11_misfit ki_71 rfl
theorem dX11_misfit_68 : decode cX11_misfit 68 = .ok (.irem, 1) := kd_r kbX11_misfit ki_227 rfl
theorem dX11_misfit_69 : decode cX11_misfit 69 = .ok (.invokevirtual 167, 3) := kd_r kbX11_misfit ki_570 rfl
theorem dX11_misfit_72 : decode cX11_misfit 72 = .ok (.ireturn, 1) := kd_r kbX11_misfit ki_7 rfl
set_option maxRecDepth 20000 in
theorem ggX11_rod_X11_knownStreet : GoodIn wsX11_rod wsX11_knownStreet := goodIn_r _ [6, 7, 8, 51, 52, 53, 54, 55, 56, 57, 58, 59, 60, 61, 62, 63, 64] rfl (by decide +kernel)
set_option maxRecDepth 20000 in
theorem gX11_rod_X11_knownStreet : GoodIn wsX11_rod (wsV RX11 94 RX11 yX11_knownStreet wsX11_knownStreet) := goodIn_app (goodIn_of _ (by decide +kernel)) ggX11_rod_X11_knownStreet
set_option maxRecDepth 20000 in
theorem ggX11_rod_X9_hasRow : GoodIn wsX11_rod wsX9_hasRow := goodIn_r _ [13, 14, 15, 16, 12, 17, 18, 65, 66, 67, 68] rfl (by decide +kernel)
set_option maxRecDepth 20000 in
theorem gX11_rod_X9_hasRow : GoodIn wsX11_rod (wsV RX11 154 RX9 yX9_hasRow wsX9_hasRow) := goodIn_app (goodIn_of _ (by decide +kernel)) ggX11_rod_X9_hasRow
set_option maxRecDepth 20000 in
theorem ggX11_rod_X7_isParts : GoodIn wsX11_rod wsX7_isParts := goodIn_r _ [22] rfl (by decide +kernel)
set_option maxRecDepth 20000 in
theorem gX11_rod_X7_isParts : GoodIn wsX11_rod (va_wsS RX11 160 yX7_isParts wsX7_isParts) := goodIn_app (goodIn_of _ (by decide +kernel)) ggX11_rod_X7_isParts
set_option maxRecDepth 20000 in
theorem ggX11_rod_X7_lookAt : GoodIn wsX11_rod wsX7_lookAt := goodIn_r _ [26, 27, 28, 29, 30, 31, 12, 32, 33, 14, 15, 16, 17, 18, 69, 70, 65, 66, 67, 68] rfl (by decide +kernel)
set_option maxRecDepth 20000 in
theorem gX11_rod_X7_lookAt : GoodIn wsX11_rod (wsV RX11 163 RX7 yX7_lookAt wsX7_lookAt) := goodIn_app (goodIn_of _ (by decide +kernel)) ggX11_rod_X7_lookAt
set_option maxRecDepth 20000 in
theorem ggX11_rod_X7_bestRod : GoodIn wsX11_rod wsX7_bestRod := goodIn_r _ [37, 38, 39, 40, 41, 21, 42, 27, 28, 43, 44, 45, 46, 47, 48, 49, 69, 70] rfl (by decide +kernel)
set_option maxRecDepth 20000 in
theorem gX11_rod_X7_bestRod : GoodIn wsX11_rod (wsV RX11 170 RX7 yX7_bestRod wsX7_bestRod) := goodIn_app (goodIn_of _ (by decide +kernel)) ggX11_rod_X7_bestRod
set_option maxRecDepth 20000 in
theorem ggX11_rod_X7_misfitBy : GoodIn wsX11_rod wsX7_misfitBy := goodIn_r _ [42, 27, 28, 43, 44, 21, 45, 46, 47, 48, 49, 69, 70] rfl (by decide +kernel)
set_option maxRecDepth 20000 in
theorem gX11_rod_X7_misfitBy : GoodIn wsX11_rod (wsV RX11 167 RX7 yX7_misfitBy wsX7_misfitBy) := goodIn_app (goodIn_of _ (by decide +kernel)) ggX11_rod_X7_misfitBy
theorem dX11_rod_0 : decode cX11_rod 0 = .ok (.aload_n 0, 1) := kd_r kbX11_rod ki_0 rfl
theorem dX11_rod_1 : decode cX11_rod 1 = .ok (.iload_n 1, 1) := kd_r kbX11_rod ki_8 rfl
theorem dX11_rod_2 : decode cX11_rod 2 = .ok (.invokevirtual 94, 3) := kd_r kbX11_rod ki_524 rfl
theorem dX11_rod_5 : decode cX11_rod 5 = .ok (.astore 5, 2) := kd_r kbX11_rod ki_150 rfl
theorem dX11_rod_7 : decode cX11_rod 7 = .ok (.aload 5, 2) := kd_r kbX11_rod ki_160 rfl
theorem dX11_rod_9 : decode cX11_rod 9 = .ok (.ifnull 30, 3) := kd_r kbX11_rod ki_571 rfl
theorem dX11_rod_12 : decode cX11_rod 12 = .ok (.aload 5, 2) := kd_r kbX11_rod ki_160 rfl
theorem dX11_rod_14 : decode cX11_rod 14 = .ok (.iload_n 2, 1) := kd_r kbX11_rod ki_11 rfl
theorem dX11_rod_15 : decode cX11_rod 15 = .ok (.invokevirtual 154, 3) := kd_r kbX11_rod ki_565 rfl
theorem dX11_rod_18 : decode cX11_rod 18 = .ok (.ifCond .eq 21, 3) := kd_r kbX11_rod ki_422 rfl
theorem dX11_rod_21 : decode cX11_rod 21 = .ok (.iload_n 3, 1) := kd_r kbX11_rod ki_55 rfl
theorem dX11_rod_22 : decode cX11_rod 22 = .ok (.invokestatic 160, 3) := kd_r kbX11_rod ki_567 rfl
theorem dX11_rod_25 : decode cX11_rod 25 = .ok (.ifCond .eq 14, 3) := kd_r kbX11_rod ki_394 rfl
theorem dX11_rod_28 : decode cX11_rod 28 = .ok (.iload 4, 2) := kd_r kbX11_rod ki_57 rfl
theorem dX11_rod_30 : decode cX11_rod 30 = .ok (.ifCond .lt 9, 3) := kd_r kbX11_rod ki_572 rfl
theorem dX11_rod_33 : decode cX11_rod 33 = .ok (.iload 4, 2) := kd_r kbX11_rod ki_57 rfl
theorem dX11_rod_35 : decode cX11_rod 35 = .ok (.iconst 1, 1) := kd_r kbX11_rod ki_16 rfl
theorem dX11_rod_36 : decode cX11_rod 36 = .ok (.if_icmp .le 5, 3) := kd_r kbX11_rod ki_106 rfl
theorem dX11_rod_39 : decode cX11_rod 39 = .ok (.iconst (-1), 1) := kd_r kbX11_rod ki_99 rfl
theorem dX11_rod_40 : decode cX11_rod 40 = .ok (.ireturn, 1) := kd_r kbX11_rod ki_7 rfl
theorem dX11_rod_41 : decode cX11_rod 41 = .ok (.aload_n 0, 1) := kd_r kbX11_rod ki_0 rfl
theorem dX11_rod_42 : decode cX11_rod 42 = .ok (.getfield 30, 3) := kd_r kbX11_rod ki_568 rfl
theorem dX11_rod_45 : decode cX11_rod 45 = .ok (.aload 5, 2) := kd_r kbX11_rod ki_160 rfl
theorem dX11_rod_47 : decode cX11_rod 47 = .ok (.iload_n 2, 1) := kd_r kbX11_rod ki_11 rfl
theorem dX11_rod_48 : decode cX11_rod 48 = .ok (.invokevirtual 163, 3) := kd_r kbX11_rod ki_569 rfl
theorem dX11_rod_51 : decode cX11_rod 51 = .ok (.aload_n 0, 1) := kd_r kbX11_rod ki_0 rfl
theorem dX11_rod_52 : decode cX11_rod 52 = .ok (.getfield 30, 3) := kd_r kbX11_rod ki_568 rfl
theorem dX11_rod_55 : decode cX11_rod 55 = .ok (.iload_n 3, 1) := kd_r kbX11_rod ki_55 rfl
theorem dX11_rod_56 : decode cX11_rod 56 = .ok (.invokevirtual 170, 3) := kd_r kbX11_rod ki_573 rfl
theorem dX11_rod_59 : decode cX11_rod 59 = .ok (.istore 6, 2) := kd_r kbX11_rod ki_199 rfl
theorem dX11_rod_61 : decode cX11_rod 61 = .ok (.iload 4, 2) := kd_r kbX11_rod ki_57 rfl
theorem dX11_rod_63 : decode cX11_rod 63 = .ok (.ifCond .ne 8, 3) := kd_r kbX11_rod ki_456 rfl
theorem dX11_rod_66 : decode cX11_rod 66 = .ok (.iload 6, 2) := kd_r kbX11_rod ki_200 rfl
theorem dX11_rod_68 : decode cX11_rod 68 = .ok (.goto 13, 3) := kd_r kbX11_rod ki_574 rfl
theorem dX11_rod_71 : decode cX11_rod 71 = .ok (.aload_n 0, 1) := kd_r kbX11_rod ki_0 rfl
theorem dX11_rod_72 : decode cX11_rod 72 = .ok (.getfield 30, 3) := kd_r kbX11_rod ki_568 rfl
theorem dX11_rod_75 : decode cX11_rod 75 = .ok (.iload 6, 2) := kd_r kbX11_rod ki_200 rfl
theorem dX11_rod_77 : decode cX11_rod 77 = .ok (.iload_n 3, 1) := kd_r kbX11_rod ki_55 rfl
theorem dX11_rod_78 : decode cX11_rod 78 = .ok (.invokevirtual 167, 3) := kd_r kbX11_rod ki_570 rfl
theorem dX11_rod_81 : decode cX11_rod 81 = .ok (.ireturn, 1) := kd_r kbX11_rod ki_7 rfl
set_option maxRecDepth 20000 in
theorem ggX11_chance_X11_knownStreet : GoodIn wsX11_chance wsX11_knownStreet := goodIn_r _ [6, 7, 8, 60, 61, 62, 63, 64, 65, 66, 67, 68, 69, 70, 71, 72, 73] rfl (by decide +kernel)
set_option maxRecDepth 20000 in
theorem gX11_chance_X11_knownStreet : GoodIn wsX11_chance (wsV RX11 94 RX11 yX11_knownStreet wsX11_knownStreet) := goodIn_app (goodIn_of _ (by decide +kernel)) ggX11_chance_X11_knownStreet
set_option maxRecDepth 20000 in
theorem ggX11_chance_X9_hasRow : GoodIn wsX11_chance wsX9_hasRow := goodIn_r _ [13, 14, 15, 16, 12, 17, 18, 74, 75, 76, 77] rfl (by decide +kernel)
set_option maxRecDepth 20000 in
theorem gX11_chance_X9_hasRow : GoodIn wsX11_chance (wsV RX11 154 RX9 yX9_hasRow wsX9_hasRow) := goodIn_app (goodIn_of _ (by decide +kernel)) ggX11_chance_X9_hasRow
set_option maxRecDepth 20000 in
theorem ggX11_chance_X7_isParts : GoodIn wsX11_chance wsX7_isParts := goodIn_r _ [22] rfl (by decide +kernel)
set_option maxRecDepth 20000 in
theorem gX11_chance_X7_isParts : GoodIn wsX11_chance (va_wsS RX11 160 yX7_isParts wsX7_isParts) := goodIn_app (goodIn_of _ (by decide +kernel)) ggX11_chance_X7_isParts
set_option maxRecDepth 20000 in
theorem ggX11_chance_X7_byChance : GoodIn wsX11_chance wsX7_byChance := goodIn_r _ [26, 27, 28, 29, 30, 31, 21, 32, 33, 34, 35, 12, 36, 37, 14, 15, 16, 17, 18, 38, 39, 40, 41, 42, 43, 44, 45, 46, 47, 48, 49, 50, 51, 52, 53, 54, 5, 55, 56, 57, 58, 59, 78, 79, 74, 75, 76, 77] rfl (by decide +kernel)
set_option maxRecDepth 20000 in
theorem gX11_chance_X7_byChance : GoodIn wsX11_chance (wsV RX11 173 RX7 yX7_byChance wsX7_byChance) := goodIn_app (goodIn_of _ (by decide +kernel)) ggX11_chance_X7_byChance
theorem dX11_chance_0 : decode cX11_chance 0 = .ok (.aload_n 0, 1) := kd_r kbX11_chance ki_0 rfl
theorem dX11_chance_1 : decode cX11_chance 1 = .ok (.iload_n 1, 1) := kd_r kbX11_chance ki_8 rfl
theorem dX11_chance_2 : decode cX11_chance 2 = .ok (.invokevirtual 94, 3) := kd_r kbX11_chance ki_524 rfl
theorem dX11_chance_5 : decode cX11_chance 5 = .ok (.astore 5, 2) := kd_r kbX11_chance ki_150 rfl
theorem dX11_chance_7 : decode cX11_chance 7 = .ok (.aload 5, 2) := kd_r kbX11_chance ki_160 rfl
theorem dX11_chance_9 : decode cX11_chance 9 = .ok (.ifnull 26, 3) := kd_r kbX11_chance ki_575 rfl
theorem dX11_chance_12 : decode cX11_chance 12 = .ok (.aload 5, 2) := kd_r kbX11_chance ki_160 rfl
theorem dX11_chance_14 : decode cX11_chance 14 = .ok (.iload_n 2, 1) := kd_r kbX11_chance ki_11 rfl
theorem dX11_chance_15 : decode cX11_chance 15 = .ok (.invokevirtual 154, 3) := kd_r kbX11_chance ki_565 rfl
theorem dX11_chance_18 : decode cX11_chance 18 = .ok (.ifCond .eq 17, 3) := kd_r kbX11_chance ki_96 rfl
theorem dX11_chance_21 : decode cX11_chance 21 = .ok (.iload_n 3, 1) := kd_r kbX11_chance ki_55 rfl
theorem dX11_chance_22 : decode cX11_chance 22 = .ok (.ifCond .lt 13, 3) := kd_r kbX11_chance ki_41 rfl
theorem dX11_chance_25 : decode cX11_chance 25 = .ok (.iload_n 3, 1) := kd_r kbX11_chance ki_55 rfl
theorem dX11_chance_26 : decode cX11_chance 26 = .ok (.bipush 100, 2) := kd_r kbX11_chance ki_228 rfl
theorem dX11_chance_28 : decode cX11_chance 28 = .ok (.idiv, 1) := kd_r kbX11_chance ki_225 rfl
theorem dX11_chance_29 : decode cX11_chance 29 = .ok (.invokestatic 160, 3) := kd_r kbX11_chance ki_567 rfl
theorem dX11_chance_32 : decode cX11_chance 32 = .ok (.ifCond .ne 5, 3) := kd_r kbX11_chance ki_36 rfl
theorem dX11_chance_35 : decode cX11_chance 35 = .ok (.iconst (-1), 1) := kd_r kbX11_chance ki_99 rfl
theorem dX11_chance_36 : decode cX11_chance 36 = .ok (.ireturn, 1) := kd_r kbX11_chance ki_7 rfl
theorem dX11_chance_37 : decode cX11_chance 37 = .ok (.iload_n 3, 1) := kd_r kbX11_chance ki_55 rfl
theorem dX11_chance_38 : decode cX11_chance 38 = .ok (.bipush 100, 2) := kd_r kbX11_chance ki_228 rfl
theorem dX11_chance_40 : decode cX11_chance 40 = .ok (.irem, 1) := kd_r kbX11_chance ki_227 rfl
theorem dX11_chance_41 : decode cX11_chance 41 = .ok (.istore 6, 2) := kd_r kbX11_chance ki_199 rfl
theorem dX11_chance_43 : decode cX11_chance 43 = .ok (.iload 6, 2) := kd_r kbX11_chance ki_200 rfl
theorem dX11_chance_45 : decode cX11_chance 45 = .ok (.iconst 1, 1) := kd_r kbX11_chance ki_16 rfl
theorem dX11_chance_46 : decode cX11_chance 46 = .ok (.if_icmp .lt 10, 3) := kd_r kbX11_chance ki_536 rfl
theorem dX11_chance_49 : decode cX11_chance 49 = .ok (.iload 6, 2) := kd_r kbX11_chance ki_200 rfl
theorem dX11_chance_51 : decode cX11_chance 51 = .ok (.bipush 50, 2) := kd_r kbX11_chance ki_285 rfl
theorem dX11_chance_53 : decode cX11_chance 53 = .ok (.if_icmp .le 5, 3) := kd_r kbX11_chance ki_106 rfl
theorem dX11_chance_56 : decode cX11_chance 56 = .ok (.iconst (-1), 1) := kd_r kbX11_chance ki_99 rfl
theorem dX11_chance_57 : decode cX11_chance 57 = .ok (.ireturn, 1) := kd_r kbX11_chance ki_7 rfl
theorem dX11_chance_58 : decode cX11_chance 58 = .ok (.aload_n 0, 1) := kd_r kbX11_chance ki_0 rfl
theorem dX11_chance_59 : decode cX11_chance 59 = .ok (.getfield 30, 3) := kd_r kbX11_chance ki_568 rfl
theorem dX11_chance_62 : decode cX11_chance 62 = .ok (.aload 5, 2) := kd_r kbX11_chance ki_160 rfl
theorem dX11_chance_64 : decode cX11_chance 64 = .ok (.iload_n 2, 1) := kd_r kbX11_chance ki_11 rfl
theorem dX11_chance_65 : decode cX11_chance 65 = .ok (.iload_n 3, 1) := kd_r kbX11_chance ki_55 rfl
theorem dX11_chance_66 : decode cX11_chance 66 = .ok (.bipush 100, 2) := kd_r kbX11_chance ki_228 rfl
theorem dX11_chance_68 : decode cX11_chance 68 = .ok (.idiv, 1) := kd_r kbX11_chance ki_225 rfl
theorem dX11_chance_69 : decode cX11_chance 69 = .ok (.iload 6, 2) := kd_r kbX11_chance ki_200 rfl
theorem dX11_chance_71 : decode cX11_chance 71 = .ok (.iload 4, 2) := kd_r kbX11_chance ki_57 rfl
theorem dX11_chance_73 : decode cX11_chance 73 = .ok (.invokevirtual 173, 3) := kd_r kbX11_chance ki_576 rfl
theorem dX11_chance_76 : decode cX11_chance 76 = .ok (.ireturn, 1) := kd_r kbX11_chance ki_7 rfl
set_option maxRecDepth 20000 in
theorem ggX11_first_X11_knownStreet : GoodIn wsX11_first wsX11_knownStreet := goodIn_r _ [6, 7, 8, 63, 64, 65, 66, 67, 68, 69, 70, 71, 72, 73, 74, 75, 76] rfl (by decide +kernel)
set_option maxRecDepth 20000 in
theorem gX11_first_X11_knownStreet : GoodIn wsX11_first (wsV RX11 94 RX11 yX11_knownStreet wsX11_knownStreet) := goodIn_app (goodIn_of _ (by decide +kernel)) ggX11_first_X11_knownStreet
set_option maxRecDepth 20000 in
theorem ggX11_first_X3_isWidthAndSlack : GoodIn wsX11_first wsX3_isWidthAndSlack := goodIn_r _ [12, 13] rfl (by decide +kernel)
set_option maxRecDepth 20000 in
theorem gX11_first_X3_isWidthAndSlack : GoodIn wsX11_first (va_wsS RX11 177 yX3_isWidthAndSlack wsX3_isWidthAndSlack) := goodIn_app (goodIn_of _ (by decide +kernel)) ggX11_first_X3_isWidthAndSlack
set_option maxRecDepth 20000 in
theorem ggX11_first_X3_canPart : GoodIn wsX11_first wsX3_canPart := goodIn_r _ [17, 18, 19, 20, 21, 22, 23, 24, 25, 26, 27, 28, 29, 30, 31, 11, 32, 33, 34, 35, 36, 37, 38, 39, 40, 41, 42, 43, 44, 45, 46, 47, 48, 49, 77, 78, 79, 80, 81, 82, 83, 84] rfl (by decide +kernel)
set_option maxRecDepth 20000 in
theorem gX11_first_X3_canPart : GoodIn wsX11_first (wsV RX11 180 RX3 yX3_canPart wsX3_canPart) := goodIn_app (goodIn_of _ (by decide +kernel)) ggX11_first_X3_canPart
set_option maxRecDepth 20000 in
theorem ggX11_first_X3_cost : GoodIn wsX11_first wsX3_cost := goodIn_r _ [53, 18, 77, 78, 79, 80] rfl (by decide +kernel)
set_option maxRecDepth 20000 in
theorem gX11_first_X3_cost : GoodIn wsX11_first (wsV RX11 184 RX3 yX3_cost wsX3_cost) := goodIn_app (goodIn_of _ (by decide +kernel)) ggX11_first_X3_cost
set_option maxRecDepth 20000 in
theorem ggX11_first_X3_groups : GoodIn wsX11_first wsX3_groups := goodIn_r _ [57, 19, 77, 78, 79, 80] rfl (by decide +kernel)
set_option maxRecDepth 20000 in
theorem gX11_first_X3_groups : GoodIn wsX11_first (wsV RX11 187 RX3 yX3_groups wsX3_groups) := goodIn_app (goodIn_of _ (by decide +kernel)) ggX11_first_X3_groups
set_option maxRecDepth 20000 in
theorem ggX11_first_X9_size : GoodIn wsX11_first wsX9_size := goodIn_r _ [27, 28, 81, 82, 83, 84] rfl (by decide +kernel)
set_option maxRecDepth 20000 in
theorem gX11_first_X9_size : GoodIn wsX11_first (wsV RX11 110 RX9 yX9_size wsX9_size) := goodIn_app (goodIn_of _ (by decide +kernel)) ggX11_first_X9_size
set_option maxRecDepth 20000 in
theorem ggX11_first_X3_firstOnesAhead : GoodIn wsX11_first wsX3_firstOnesAhead := goodIn_r _ [62, 20, 21, 77, 78, 79, 80] rfl (by decide +kernel)
set_option maxRecDepth 20000 in
theorem gX11_first_X3_firstOnesAhead : GoodIn wsX11_first (wsV RX11 190 RX3 yX3_firstOnesAhead wsX3_firstOnesAhead) := goodIn_app (goodIn_of _ (by decide +kernel)) ggX11_first_X3_firstOnesAhead
theorem dX11_first_0 : decode cX11_first 0 = .ok (.aload_n 0, 1) := kd_r kbX11_first ki_0 rfl
theorem dX11_first_1 : decode cX11_first 1 = .ok (.iload_n 1, 1) := kd_r kbX11_first ki_8 rfl
theorem dX11_first_2 : decode cX11_first 2 = .ok (.invokevirtual 94, 3) := kd_r kbX11_first ki_524 rfl
theorem dX11_first_5 : decode cX11_first 5 = .ok (.astore 4, 2) := kd_r kbX11_first ki_525 rfl
theorem dX11_first_7 : decode cX11_first 7 = .ok (.aload 4, 2) := kd_r kbX11_first ki_526 rfl
theorem dX11_first_9 : decode cX11_first 9 = .ok (.ifnull 19, 3) := kd_r kbX11_first ki_577 rfl
theorem dX11_first_12 : decode cX11_first 12 = .ok (.iload_n 2, 1) := kd_r kbX11_first ki_11 rfl
theorem dX11_first_13 : decode cX11_first 13 = .ok (.invokestatic 177, 3) := kd_r kbX11_first ki_578 rfl
theorem dX11_first_16 : decode cX11_first 16 = .ok (.ifCond .eq 12, 3) := kd_r kbX11_first ki_122 rfl
theorem dX11_first_19 : decode cX11_first 19 = .ok (.iload_n 3, 1) := kd_r kbX11_first ki_55 rfl
theorem dX11_first_20 : decode cX11_first 20 = .ok (.ifCond .lt 8, 3) := kd_r kbX11_first ki_300 rfl
theorem dX11_first_23 : decode cX11_first 23 = .ok (.iload_n 3, 1) := kd_r kbX11_first ki_55 rfl
theorem dX11_first_24 : decode cX11_first 24 = .ok (.iconst 2, 1) := kd_r kbX11_first ki_244 rfl
theorem dX11_first_25 : decode cX11_first 25 = .ok (.if_icmp .le 5, 3) := kd_r kbX11_first ki_106 rfl
theorem dX11_first_28 : decode cX11_first 28 = .ok (.iconst (-1), 1) := kd_r kbX11_first ki_99 rfl
theorem dX11_first_29 : decode cX11_first 29 = .ok (.ireturn, 1) := kd_r kbX11_first ki_7 rfl
theorem dX11_first_30 : decode cX11_first 30 = .ok (.aload_n 0, 1) := kd_r kbX11_first ki_0 rfl
theorem dX11_first_31 : decode cX11_first 31 = .ok (.getfield 37, 3) := kd_r kbX11_first ki_579 rfl
theorem dX11_first_34 : decode cX11_first 34 = .ok (.aload 4, 2) := kd_r kbX11_first ki_526 rfl
theorem dX11_first_36 : decode cX11_first 36 = .ok (.iload_n 2, 1) := kd_r kbX11_first ki_11 rfl
theorem dX11_first_37 : decode cX11_first 37 = .ok (.bipush 100, 2) := kd_r kbX11_first ki_228 rfl
theorem dX11_first_39 : decode cX11_first 39 = .ok (.idiv, 1) := kd_r kbX11_first ki_225 rfl
theorem dX11_first_40 : decode cX11_first 40 = .ok (.iload_n 2, 1) := kd_r kbX11_first ki_11 rfl
theorem dX11_first_41 : decode cX11_first 41 = .ok (.bipush 100, 2) := kd_r kbX11_first ki_228 rfl
theorem dX11_first_43 : decode cX11_first 43 = .ok (.irem, 1) := kd_r kbX11_first ki_227 rfl
theorem dX11_first_44 : decode cX11_first 44 = .ok (.invokevirtual 180, 3) := kd_r kbX11_first ki_580 rfl
theorem dX11_first_47 : decode cX11_first 47 = .ok (.ifCond .ne 6, 3) := kd_r kbX11_first ki_388 rfl
theorem dX11_first_50 : decode cX11_first 50 = .ok (.bipush (-2), 2) := kd_r kbX11_first ki_39 rfl
theorem dX11_first_52 : decode cX11_first 52 = .ok (.ireturn, 1) := kd_r kbX11_first ki_7 rfl
theorem dX11_first_53 : decode cX11_first 53 = .ok (.iload_n 3, 1) := kd_r kbX11_first ki_55 rfl
theorem dX11_first_54 : decode cX11_first 54 = .ok (.ifCond .ne 13, 3) := kd_r kbX11_first ki_581 rfl
theorem dX11_first_57 : decode cX11_first 57 = .ok (.aload_n 0, 1) := kd_r kbX11_first ki_0 rfl
theorem dX11_first_58 : decode cX11_first 58 = .ok (.getfield 37, 3) := kd_r kbX11_first ki_579 rfl
theorem dX11_first_61 : decode cX11_first 61 = .ok (.invokevirtual 184, 3) := kd_r kbX11_first ki_582 rfl
theorem dX11_first_64 : decode cX11_first 64 = .ok (.goto 30, 3) := kd_r kbX11_first ki_583 rfl
theorem dX11_first_67 : decode cX11_first 67 = .ok (.iload_n 3, 1) := kd_r kbX11_first ki_55 rfl
theorem dX11_first_68 : decode cX11_first 68 = .ok (.iconst 1, 1) := kd_r kbX11_first ki_16 rfl
theorem dX11_first_69 : decode cX11_first 69 = .ok (.if_icmp .ne 13, 3) := kd_r kbX11_first ki_477 rfl
theorem dX11_first_72 : decode cX11_first 72 = .ok (.aload_n 0, 1) := kd_r kbX11_first ki_0 rfl
theorem dX11_first_73 : decode cX11_first 73 = .ok (.getfield 37, 3) := kd_r kbX11_first ki_579 rfl
theorem dX11_first_76 : decode cX11_first 76 = .ok (.invokevirtual 187, 3) := kd_r kbX11_first ki_584 rfl
theorem dX11_first_79 : decode cX11_first 79 = .ok (.goto 15, 3) := kd_r kbX11_first ki_383 rfl
theorem dX11_first_82 : decode cX11_first 82 = .ok (.aload_n 0, 1) := kd_r kbX11_first ki_0 rfl
theorem dX11_first_83 : decode cX11_first 83 = .ok (.getfield 37, 3) := kd_r kbX11_first ki_579 rfl
theorem dX11_first_86 : decode cX11_first 86 = .ok (.aload 4, 2) := kd_r kbX11_first ki_526 rfl
theorem dX11_first_88 : decode cX11_first 88 = .ok (.invokevirtual 110, 3) := kd_r kbX11_first ki_532 rfl
theorem dX11_first_91 : decode cX11_first 91 = .ok (.invokevirtual 190, 3) := kd_r kbX11_first ki_585 rfl
theorem dX11_first_94 : decode cX11_first 94 = .ok (.ireturn, 1) := kd_r kbX11_first ki_7 rfl
set_option maxRecDepth 20000 in
theorem ggX11_led_X11_knownStreet : GoodIn wsX11_led wsX11_knownStreet := goodIn_r _ [6, 7, 8, 55, 56, 57, 58, 59, 60, 61, 62, 63, 64, 65, 66, 67, 68] rfl (by decide +kernel)
set_option maxRecDepth 20000 in
theorem gX11_led_X11_knownStreet : GoodIn wsX11_led (wsV RX11 94 RX11 yX11_knownStreet wsX11_knownStreet) := goodIn_app (goodIn_of _ (by decide +kernel)) ggX11_led_X11_knownStreet
set_option maxRecDepth 20000 in
theorem ggX11_led_X9_has : GoodIn wsX11_led wsX9_has := goodIn_r _ [13, 14, 69, 70, 71, 72] rfl (by decide +kernel)
set_option maxRecDepth 20000 in
theorem gX11_led_X9_has : GoodIn wsX11_led (wsV RX11 128 RX9 yX9_has wsX9_has) := goodIn_app (goodIn_of _ (by decide +kernel)) ggX11_led_X9_has
set_option maxRecDepth 20000 in
theorem ggX11_led_X3_isWidthAndSlack : GoodIn wsX11_led wsX3_isWidthAndSlack := goodIn_r _ [18, 19] rfl (by decide +kernel)
set_option maxRecDepth 20000 in
theorem gX11_led_X3_isWidthAndSlack : GoodIn wsX11_led (va_wsS RX11 177 yX3_isWidthAndSlack wsX3_isWidthAndSlack) := goodIn_app (goodIn_of _ (by decide +kernel)) ggX11_led_X3_isWidthAndSlack
set_option maxRecDepth 20000 in
theorem ggX11_led_X3_canPart : GoodIn wsX11_led wsX3_canPart := goodIn_r _ [23, 24, 25, 26, 27, 28, 29, 30, 31, 12, 32, 14, 33, 34, 35, 17, 36, 37, 38, 39, 40, 41, 42, 43, 44, 45, 46, 10, 11, 13, 47, 48, 49, 50, 73, 74, 75, 76, 69, 70, 71, 72] rfl (by decide +kernel)
set_option maxRecDepth 20000 in
theorem gX11_led_X3_canPart : GoodIn wsX11_led (wsV RX11 180 RX3 yX3_canPart wsX3_canPart) := goodIn_app (goodIn_of _ (by decide +kernel)) ggX11_led_X3_canPart
set_option maxRecDepth 20000 in
theorem ggX11_led_X3_firstOnesAhead : GoodIn wsX11_led wsX3_firstOnesAhead := goodIn_r _ [54, 26, 27, 73, 74, 75, 76] rfl (by decide +kernel)
set_option maxRecDepth 20000 in
theorem gX11_led_X3_firstOnesAhead : GoodIn wsX11_led (wsV RX11 190 RX3 yX3_firstOnesAhead wsX3_firstOnesAhead) := goodIn_app (goodIn_of _ (by decide +kernel)) ggX11_led_X3_firstOnesAhead
theorem dX11_led_0 : decode cX11_led 0 = .ok (.iload_n 1, 1) := kd_r kbX11_led ki_8 rfl
theorem dX11_led_1 : decode cX11_led 1 = .ok (.ifCond .ge 7, 3) := kd_r kbX11_led ki_382 rfl
