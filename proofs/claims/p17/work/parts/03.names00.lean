theorem dX0_init_0 : decode cX0_init 0 = .ok (.aload_n 0, 1) := kd_r kbX0_init ki_0 rfl
theorem dX0_init_1 : decode cX0_init 1 = .ok (.invokespecial 3, 3) := kd_r kbX0_init ki_1 rfl
theorem dX0_init_4 : decode cX0_init 4 = .ok (.aload_n 0, 1) := kd_r kbX0_init ki_0 rfl
theorem dX0_init_5 : decode cX0_init 5 = .ok (.bipush 6, 2) := kd_r kbX0_init ki_2 rfl
theorem dX0_init_7 : decode cX0_init 7 = .ok (.newarray .int, 2) := kd_r kbX0_init ki_3 rfl
theorem dX0_init_9 : decode cX0_init 9 = .ok (.putfield 9, 3) := kd_r kbX0_init ki_4 rfl
theorem dX0_init_12 : decode cX0_init 12 = .ok (.return_, 1) := kd_r kbX0_init ki_5 rfl
theorem dX0_size_0 : decode cX0_size 0 = .ok (.aload_n 0, 1) := kd_r kbX0_size ki_0 rfl
theorem dX0_size_1 : decode cX0_size 1 = .ok (.getfield 15, 3) := kd_r kbX0_size ki_6 rfl
theorem dX0_size_4 : decode cX0_size 4 = .ok (.ireturn, 1) := kd_r kbX0_size ki_7 rfl
set_option maxRecDepth 20000 in
theorem ggX0_isTold_X0_isStreetNumber : GoodIn wsX0_isTold wsX0_isStreetNumber := goodIn_r _ [5] rfl (by decide +kernel)
set_option maxRecDepth 20000 in
theorem gX0_isTold_X0_isStreetNumber : GoodIn wsX0_isTold (va_wsS RX0 19 yX0_isStreetNumber wsX0_isStreetNumber) := goodIn_app (goodIn_of _ (by decide +kernel)) ggX0_isTold_X0_isStreetNumber
theorem dX0_isTold_0 : decode cX0_isTold 0 = .ok (.iload_n 1, 1) := kd_r kbX0_isTold ki_8 rfl
theorem dX0_isTold_1 : decode cX0_isTold 1 = .ok (.invokestatic 19, 3) := kd_r kbX0_isTold ki_9 rfl
theorem dX0_isTold_4 : decode cX0_isTold 4 = .ok (.ifCond .eq 27, 3) := kd_r kbX0_isTold ki_10 rfl
theorem dX0_isTold_7 : decode cX0_isTold 7 = .ok (.iload_n 2, 1) := kd_r kbX0_isTold ki_11 rfl
theorem dX0_isTold_8 : decode cX0_isTold 8 = .ok (.invokestatic 19, 3) := kd_r kbX0_isTold ki_9 rfl
theorem dX0_isTold_11 : decode cX0_isTold 11 = .ok (.ifCond .eq 20, 3) := kd_r kbX0_isTold ki_12 rfl
theorem dX0_isTold_14 : decode cX0_isTold 14 = .ok (.aload_n 0, 1) := kd_r kbX0_isTold ki_0 rfl
theorem dX0_isTold_15 : decode cX0_isTold 15 = .ok (.getfield 9, 3) := kd_r kbX0_isTold ki_13 rfl
theorem dX0_isTold_18 : decode cX0_isTold 18 = .ok (.iload_n 1, 1) := kd_r kbX0_isTold ki_8 rfl
theorem dX0_isTold_19 : decode cX0_isTold 19 = .ok (.iaload, 1) := kd_r kbX0_isTold ki_14 rfl
theorem dX0_isTold_20 : decode cX0_isTold 20 = .ok (.iload_n 2, 1) := kd_r kbX0_isTold ki_11 rfl
theorem dX0_isTold_21 : decode cX0_isTold 21 = .ok (.iushr, 1) := kd_r kbX0_isTold ki_15 rfl
theorem dX0_isTold_22 : decode cX0_isTold 22 = .ok (.iconst 1, 1) := kd_r kbX0_isTold ki_16 rfl
theorem dX0_isTold_23 : decode cX0_isTold 23 = .ok (.iand, 1) := kd_r kbX0_isTold ki_17 rfl
theorem dX0_isTold_24 : decode cX0_isTold 24 = .ok (.ifCond .eq 7, 3) := kd_r kbX0_isTold ki_18 rfl
theorem dX0_isTold_27 : decode cX0_isTold 27 = .ok (.iconst 1, 1) := kd_r kbX0_isTold ki_16 rfl
theorem dX0_isTold_28 : decode cX0_isTold 28 = .ok (.goto 4, 3) := kd_r kbX0_isTold ki_19 rfl
theorem dX0_isTold_31 : decode cX0_isTold 31 = .ok (.iconst 0, 1) := kd_r kbX0_isTold ki_20 rfl
theorem dX0_isTold_32 : decode cX0_isTold 32 = .ok (.ireturn, 1) := kd_r kbX0_isTold ki_7 rfl
set_option maxRecDepth 20000 in
theorem ggX0_tell_X0_isStreetNumber : GoodIn wsX0_tell wsX0_isStreetNumber := goodIn_r _ [6] rfl (by decide +kernel)
set_option maxRecDepth 20000 in
theorem gX0_tell_X0_isStreetNumber : GoodIn wsX0_tell (va_wsS RX0 19 yX0_isStreetNumber wsX0_isStreetNumber) := goodIn_app (goodIn_of _ (by decide +kernel)) ggX0_tell_X0_isStreetNumber
set_option maxRecDepth 20000 in
theorem ggX0_tell_X0_isTold : GoodIn wsX0_tell wsX0_isTold := goodIn_r _ [10, 1, 3, 4, 5, 6, 11, 12] rfl (by decide +kernel)
set_option maxRecDepth 20000 in
theorem gX0_tell_X0_isTold : GoodIn wsX0_tell (wsV RX0 23 RX0 yX0_isTold wsX0_isTold) := goodIn_app (goodIn_of _ (by decide +kernel)) ggX0_tell_X0_isTold
theorem dX0_tell_0 : decode cX0_tell 0 = .ok (.iload_n 1, 1) := kd_r kbX0_tell ki_8 rfl
theorem dX0_tell_1 : decode cX0_tell 1 = .ok (.invokestatic 19, 3) := kd_r kbX0_tell ki_9 rfl
theorem dX0_tell_4 : decode cX0_tell 4 = .ok (.ifCond .eq 41, 3) := kd_r kbX0_tell ki_21 rfl
theorem dX0_tell_7 : decode cX0_tell 7 = .ok (.iload_n 2, 1) := kd_r kbX0_tell ki_11 rfl
theorem dX0_tell_8 : decode cX0_tell 8 = .ok (.invokestatic 19, 3) := kd_r kbX0_tell ki_9 rfl
theorem dX0_tell_11 : decode cX0_tell 11 = .ok (.ifCond .eq 34, 3) := kd_r kbX0_tell ki_22 rfl
theorem dX0_tell_14 : decode cX0_tell 14 = .ok (.aload_n 0, 1) := kd_r kbX0_tell ki_0 rfl
theorem dX0_tell_15 : decode cX0_tell 15 = .ok (.iload_n 1, 1) := kd_r kbX0_tell ki_8 rfl
theorem dX0_tell_16 : decode cX0_tell 16 = .ok (.iload_n 2, 1) := kd_r kbX0_tell ki_11 rfl
theorem dX0_tell_17 : decode cX0_tell 17 = .ok (.invokevirtual 23, 3) := kd_r kbX0_tell ki_23 rfl
theorem dX0_tell_20 : decode cX0_tell 20 = .ok (.ifCond .ne 25, 3) := kd_r kbX0_tell ki_24 rfl
theorem dX0_tell_23 : decode cX0_tell 23 = .ok (.aload_n 0, 1) := kd_r kbX0_tell ki_0 rfl
theorem dX0_tell_24 : decode cX0_tell 24 = .ok (.getfield 9, 3) := kd_r kbX0_tell ki_13 rfl
theorem dX0_tell_27 : decode cX0_tell 27 = .ok (.iload_n 1, 1) := kd_r kbX0_tell ki_8 rfl
theorem dX0_tell_28 : decode cX0_tell 28 = .ok (.dup2, 1) := kd_r kbX0_tell ki_25 rfl
theorem dX0_tell_29 : decode cX0_tell 29 = .ok (.iaload, 1) := kd_r kbX0_tell ki_14 rfl
theorem dX0_tell_30 : decode cX0_tell 30 = .ok (.iconst 1, 1) := kd_r kbX0_tell ki_16 rfl
theorem dX0_tell_31 : decode cX0_tell 31 = .ok (.iload_n 2, 1) := kd_r kbX0_tell ki_11 rfl
theorem dX0_tell_32 : decode cX0_tell 32 = .ok (.ishl, 1) := kd_r kbX0_tell ki_26 rfl
theorem dX0_tell_33 : decode cX0_tell 33 = .ok (.ior, 1) := kd_r kbX0_tell ki_27 rfl
theorem dX0_tell_34 : decode cX0_tell 34 = .ok (.iastore, 1) := kd_r kbX0_tell ki_28 rfl
theorem dX0_tell_35 : decode cX0_tell 35 = .ok (.aload_n 0, 1) := kd_r kbX0_tell ki_0 rfl
theorem dX0_tell_36 : decode cX0_tell 36 = .ok (.dup, 1) := kd_r kbX0_tell ki_29 rfl
theorem dX0_tell_37 : decode cX0_tell 37 = .ok (.getfield 15, 3) := kd_r kbX0_tell ki_6 rfl
theorem dX0_tell_40 : decode cX0_tell 40 = .ok (.iconst 1, 1) := kd_r kbX0_tell ki_16 rfl
theorem dX0_tell_41 : decode cX0_tell 41 = .ok (.iadd, 1) := kd_r kbX0_tell ki_30 rfl
theorem dX0_tell_42 : decode cX0_tell 42 = .ok (.putfield 15, 3) := kd_r kbX0_tell ki_31 rfl
theorem dX0_tell_45 : decode cX0_tell 45 = .ok (.aload_n 0, 1) := kd_r kbX0_tell ki_0 rfl
theorem dX0_tell_46 : decode cX0_tell 46 = .ok (.getfield 15, 3) := kd_r kbX0_tell ki_6 rfl
theorem dX0_tell_49 : decode cX0_tell 49 = .ok (.ireturn, 1) := kd_r kbX0_tell ki_7 rfl
theorem dX0_leastFree_0 : decode cX0_leastFree 0 = .ok (.iconst 0, 1) := kd_r kbX0_leastFree ki_20 rfl
theorem dX0_leastFree_1 : decode cX0_leastFree 1 = .ok (.istore_n 2, 1) := kd_r kbX0_leastFree ki_32 rfl
theorem dX0_leastFree_2 : decode cX0_leastFree 2 = .ok (.iload_n 2, 1) := kd_r kbX0_leastFree ki_11 rfl
theorem dX0_leastFree_3 : decode cX0_leastFree 3 = .ok (.aload_n 0, 1) := kd_r kbX0_leastFree ki_0 rfl
theorem dX0_leastFree_4 : decode cX0_leastFree 4 = .ok (.getfield 9, 3) := kd_r kbX0_leastFree ki_13 rfl
theorem dX0_leastFree_7 : decode cX0_leastFree 7 = .ok (.arraylength, 1) := kd_r kbX0_leastFree ki_33 rfl
theorem dX0_leastFree_8 : decode cX0_leastFree 8 = .ok (.if_icmp .ge 30, 3) := kd_r kbX0_leastFree ki_34 rfl
theorem dX0_leastFree_11 : decode cX0_leastFree 11 = .ok (.iload_n 1, 1) := kd_r kbX0_leastFree ki_8 rfl
theorem dX0_leastFree_12 : decode cX0_leastFree 12 = .ok (.iload_n 2, 1) := kd_r kbX0_leastFree ki_11 rfl
theorem dX0_leastFree_13 : decode cX0_leastFree 13 = .ok (.iushr, 1) := kd_r kbX0_leastFree ki_15 rfl
theorem dX0_leastFree_14 : decode cX0_leastFree 14 = .ok (.iconst 1, 1) := kd_r kbX0_leastFree ki_16 rfl
theorem dX0_leastFree_15 : decode cX0_leastFree 15 = .ok (.iand, 1) := kd_r kbX0_leastFree ki_17 rfl
theorem dX0_leastFree_16 : decode cX0_leastFree 16 = .ok (.ifCond .eq 16, 3) := kd_r kbX0_leastFree ki_35 rfl
theorem dX0_leastFree_19 : decode cX0_leastFree 19 = .ok (.aload_n 0, 1) := kd_r kbX0_leastFree ki_0 rfl
theorem dX0_leastFree_20 : decode cX0_leastFree 20 = .ok (.getfield 9, 3) := kd_r kbX0_leastFree ki_13 rfl
theorem dX0_leastFree_23 : decode cX0_leastFree 23 = .ok (.iload_n 2, 1) := kd_r kbX0_leastFree ki_11 rfl
theorem dX0_leastFree_24 : decode cX0_leastFree 24 = .ok (.iaload, 1) := kd_r kbX0_leastFree ki_14 rfl
theorem dX0_leastFree_25 : decode cX0_leastFree 25 = .ok (.iload_n 1, 1) := kd_r kbX0_leastFree ki_8 rfl
theorem dX0_leastFree_26 : decode cX0_leastFree 26 = .ok (.iand, 1) := kd_r kbX0_leastFree ki_17 rfl
theorem dX0_leastFree_27 : decode cX0_leastFree 27 = .ok (.ifCond .ne 5, 3) := kd_r kbX0_leastFree ki_36 rfl
theorem dX0_leastFree_30 : decode cX0_leastFree 30 = .ok (.iload_n 2, 1) := kd_r kbX0_leastFree ki_11 rfl
theorem dX0_leastFree_31 : decode cX0_leastFree 31 = .ok (.ireturn, 1) := kd_r kbX0_leastFree ki_7 rfl
theorem dX0_leastFree_32 : decode cX0_leastFree 32 = .ok (.iinc 2 1, 3) := kd_r kbX0_leastFree ki_37 rfl
theorem dX0_leastFree_35 : decode cX0_leastFree 35 = .ok (.goto (-33), 3) := kd_r kbX0_leastFree ki_38 rfl
theorem dX0_leastFree_38 : decode cX0_leastFree 38 = .ok (.bipush (-2), 2) := kd_r kbX0_leastFree ki_39 rfl
theorem dX0_leastFree_40 : decode cX0_leastFree 40 = .ok (.ireturn, 1) := kd_r kbX0_leastFree ki_7 rfl
theorem dX0_isStreetNumber_0 : decode cX0_isStreetNumber 0 = .ok (.iload_n 0, 1) := kd_r kbX0_isStreetNumber ki_40 rfl
theorem dX0_isStreetNumber_1 : decode cX0_isStreetNumber 1 = .ok (.ifCond .lt 13, 3) := kd_r kbX0_isStreetNumber ki_41 rfl
theorem dX0_isStreetNumber_4 : decode cX0_isStreetNumber 4 = .ok (.iload_n 0, 1) := kd_r kbX0_isStreetNumber ki_40 rfl
theorem dX0_isStreetNumber_5 : decode cX0_isStreetNumber 5 = .ok (.bipush 6, 2) := kd_r kbX0_isStreetNumber ki_2 rfl
theorem dX0_isStreetNumber_7 : decode cX0_isStreetNumber 7 = .ok (.if_icmp .ge 7, 3) := kd_r kbX0_isStreetNumber ki_42 rfl
theorem dX0_isStreetNumber_10 : decode cX0_isStreetNumber 10 = .ok (.iconst 1, 1) := kd_r kbX0_isStreetNumber ki_16 rfl
theorem dX0_isStreetNumber_11 : decode cX0_isStreetNumber 11 = .ok (.goto 4, 3) := kd_r kbX0_isStreetNumber ki_19 rfl
theorem dX0_isStreetNumber_14 : decode cX0_isStreetNumber 14 = .ok (.iconst 0, 1) := kd_r kbX0_isStreetNumber ki_20 rfl
theorem dX0_isStreetNumber_15 : decode cX0_isStreetNumber 15 = .ok (.ireturn, 1) := kd_r kbX0_isStreetNumber ki_7 rfl
theorem dX1_init_0 : decode cX1_init 0 = .ok (.aload_n 0, 1) := kd_r kbX1_init ki_0 rfl
theorem dX1_init_1 : decode cX1_init 1 = .ok (.invokespecial 1, 3) := kd_r kbX1_init ki_43 rfl
theorem dX1_init_4 : decode cX1_init 4 = .ok (.aload_n 0, 1) := kd_r kbX1_init ki_0 rfl
theorem dX1_init_5 : decode cX1_init 5 = .ok (.bipush 40, 2) := kd_r kbX1_init ki_44 rfl
theorem dX1_init_7 : decode cX1_init 7 = .ok (.newarray .int, 2) := kd_r kbX1_init ki_3 rfl
theorem dX1_init_9 : decode cX1_init 9 = .ok (.putfield 9, 3) := kd_r kbX1_init ki_4 rfl
theorem dX1_init_12 : decode cX1_init 12 = .ok (.aload_n 0, 1) := kd_r kbX1_init ki_0 rfl
theorem dX1_init_13 : decode cX1_init 13 = .ok (.bipush 40, 2) := kd_r kbX1_init ki_44 rfl
theorem dX1_init_15 : decode cX1_init 15 = .ok (.newarray .int, 2) := kd_r kbX1_init ki_3 rfl
theorem dX1_init_17 : decode cX1_init 17 = .ok (.putfield 13, 3) := kd_r kbX1_init ki_45 rfl
theorem dX1_init_20 : decode cX1_init 20 = .ok (.aload_n 0, 1) := kd_r kbX1_init ki_0 rfl
theorem dX1_init_21 : decode cX1_init 21 = .ok (.bipush 40, 2) := kd_r kbX1_init ki_44 rfl
theorem dX1_init_23 : decode cX1_init 23 = .ok (.newarray .int, 2) := kd_r kbX1_init ki_3 rfl
theorem dX1_init_25 : decode cX1_init 25 = .ok (.putfield 16, 3) := kd_r kbX1_init ki_46 rfl
theorem dX1_init_28 : decode cX1_init 28 = .ok (.aload_n 0, 1) := kd_r kbX1_init ki_0 rfl
theorem dX1_init_29 : decode cX1_init 29 = .ok (.bipush 40, 2) := kd_r kbX1_init ki_44 rfl
theorem dX1_init_31 : decode cX1_init 31 = .ok (.newarray .int, 2) := kd_r kbX1_init ki_3 rfl
theorem dX1_init_33 : decode cX1_init 33 = .ok (.putfield 19, 3) := kd_r kbX1_init ki_47 rfl
theorem dX1_init_36 : decode cX1_init 36 = .ok (.return_, 1) := kd_r kbX1_init ki_5 rfl
theorem dX1_undoable_0 : decode cX1_undoable 0 = .ok (.aload_n 0, 1) := kd_r kbX1_undoable ki_0 rfl
theorem dX1_undoable_1 : decode cX1_undoable 1 = .ok (.getfield 22, 3) := kd_r kbX1_undoable ki_48 rfl
theorem dX1_undoable_4 : decode cX1_undoable 4 = .ok (.ireturn, 1) := kd_r kbX1_undoable ki_7 rfl
theorem dX1_redoable_0 : decode cX1_redoable 0 = .ok (.aload_n 0, 1) := kd_r kbX1_redoable ki_0 rfl
theorem dX1_redoable_1 : decode cX1_redoable 1 = .ok (.getfield 26, 3) := kd_r kbX1_redoable ki_49 rfl
theorem dX1_redoable_4 : decode cX1_redoable 4 = .ok (.aload_n 0, 1) := kd_r kbX1_redoable ki_0 rfl
theorem dX1_redoable_5 : decode cX1_redoable 5 = .ok (.getfield 22, 3) := kd_r kbX1_redoable ki_48 rfl
theorem dX1_redoable_8 : decode cX1_redoable 8 = .ok (.isub, 1) := kd_r kbX1_redoable ki_50 rfl
theorem dX1_redoable_9 : decode cX1_redoable 9 = .ok (.ireturn, 1) := kd_r kbX1_redoable ki_7 rfl
set_option maxRecDepth 20000 in
theorem ggX1_remember_X1_forgetOldest : GoodIn wsX1_remember wsX1_forgetOldest := goodIn_r _ [11, 2, 3, 4, 5, 1, 12, 13, 14, 15, 16, 17] rfl (by decide +kernel)
set_option maxRecDepth 20000 in
theorem gX1_remember_X1_forgetOldest : GoodIn wsX1_remember (wsV RX1 29 RX1 yX1_forgetOldest wsX1_forgetOldest) := goodIn_app (goodIn_of _ (by decide +kernel)) ggX1_remember_X1_forgetOldest
theorem dX1_remember_0 : decode cX1_remember 0 = .ok (.aload_n 0, 1) := kd_r kbX1_remember ki_0 rfl
theorem dX1_remember_1 : decode cX1_remember 1 = .ok (.getfield 22, 3) := kd_r kbX1_remember ki_48 rfl
theorem dX1_remember_4 : decode cX1_remember 4 = .ok (.bipush 40, 2) := kd_r kbX1_remember ki_44 rfl
theorem dX1_remember_6 : decode cX1_remember 6 = .ok (.if_icmp .lt 7, 3) := kd_r kbX1_remember ki_51 rfl
theorem dX1_remember_9 : decode cX1_remember 9 = .ok (.aload_n 0, 1) := kd_r kbX1_remember ki_0 rfl
theorem dX1_remember_10 : decode cX1_remember 10 = .ok (.invokevirtual 29, 3) := kd_r kbX1_remember ki_52 rfl
theorem dX1_remember_13 : decode cX1_remember 13 = .ok (.aload_n 0, 1) := kd_r kbX1_remember ki_0 rfl
theorem dX1_remember_14 : decode cX1_remember 14 = .ok (.getfield 9, 3) := kd_r kbX1_remember ki_13 rfl
theorem dX1_remember_17 : decode cX1_remember 17 = .ok (.aload_n 0, 1) := kd_r kbX1_remember ki_0 rfl
theorem dX1_remember_18 : decode cX1_remember 18 = .ok (.getfield 22, 3) := kd_r kbX1_remember ki_48 rfl
theorem dX1_remember_21 : decode cX1_remember 21 = .ok (.iload_n 1, 1) := kd_r kbX1_remember ki_8 rfl
theorem dX1_remember_22 : decode cX1_remember 22 = .ok (.iastore, 1) := kd_r kbX1_remember ki_28 rfl
theorem dX1_remember_23 : decode cX1_remember 23 = .ok (.aload_n 0, 1) := kd_r kbX1_remember ki_0 rfl
theorem dX1_remember_24 : decode cX1_remember 24 = .ok (.getfield 13, 3) := kd_r kbX1_remember ki_53 rfl
theorem dX1_remember_27 : decode cX1_remember 27 = .ok (.aload_n 0, 1) := kd_r kbX1_remember ki_0 rfl
theorem dX1_remember_28 : decode cX1_remember 28 = .ok (.getfield 22, 3) := kd_r kbX1_remember ki_48 rfl
theorem dX1_remember_31 : decode cX1_remember 31 = .ok (.iload_n 2, 1) := kd_r kbX1_remember ki_11 rfl
theorem dX1_remember_32 : decode cX1_remember 32 = .ok (.iastore, 1) := kd_r kbX1_remember ki_28 rfl
theorem dX1_remember_33 : decode cX1_remember 33 = .ok (.aload_n 0, 1) := kd_r kbX1_remember ki_0 rfl
theorem dX1_remember_34 : decode cX1_remember 34 = .ok (.getfield 16, 3) := kd_r kbX1_remember ki_54 rfl
theorem dX1_remember_37 : decode cX1_remember 37 = .ok (.aload_n 0, 1) := kd_r kbX1_remember ki_0 rfl
theorem dX1_remember_38 : decode cX1_remember 38 = .ok (.getfield 22, 3) := kd_r kbX1_remember ki_48 rfl
theorem dX1_remember_41 : decode cX1_remember 41 = .ok (.iload_n 3, 1) := kd_r kbX1_remember ki_55 rfl
theorem dX1_remember_42 : decode cX1_remember 42 = .ok (.iastore, 1) := kd_r kbX1_remember ki_28 rfl
theorem dX1_remember_43 : decode cX1_remember 43 = .ok (.aload_n 0, 1) := kd_r kbX1_remember ki_0 rfl
theorem dX1_remember_44 : decode cX1_remember 44 = .ok (.getfield 19, 3) := kd_r kbX1_remember ki_56 rfl
theorem dX1_remember_47 : decode cX1_remember 47 = .ok (.aload_n 0, 1) := kd_r kbX1_remember ki_0 rfl
theorem dX1_remember_48 : decode cX1_remember 48 = .ok (.getfield 22, 3) := kd_r kbX1_remember ki_48 rfl
theorem dX1_remember_51 : decode cX1_remember 51 = .ok (.iload 4, 2) := kd_r kbX1_remember ki_57 rfl
theorem dX1_remember_53 : decode cX1_remember 53 = .ok (.iastore, 1) := kd_r kbX1_remember ki_28 rfl
theorem dX1_remember_54 : decode cX1_remember 54 = .ok (.aload_n 0, 1) := kd_r kbX1_remember ki_0 rfl
theorem dX1_remember_55 : decode cX1_remember 55 = .ok (.dup, 1) := kd_r kbX1_remember ki_29 rfl
theorem dX1_remember_56 : decode cX1_remember 56 = .ok (.getfield 22, 3) := kd_r kbX1_remember ki_48 rfl
theorem dX1_remember_59 : decode cX1_remember 59 = .ok (.iconst 1, 1) := kd_r kbX1_remember ki_16 rfl
theorem dX1_remember_60 : decode cX1_remember 60 = .ok (.iadd, 1) := kd_r kbX1_remember ki_30 rfl
theorem dX1_remember_61 : decode cX1_remember 61 = .ok (.putfield 22, 3) := kd_r kbX1_remember ki_58 rfl
theorem dX1_remember_64 : decode cX1_remember 64 = .ok (.aload_n 0, 1) := kd_r kbX1_remember ki_0 rfl
theorem dX1_remember_65 : decode cX1_remember 65 = .ok (.aload_n 0, 1) := kd_r kbX1_remember ki_0 rfl
theorem dX1_remember_66 : decode cX1_remember 66 = .ok (.getfield 22, 3) := kd_r kbX1_remember ki_48 rfl
theorem dX1_remember_69 : decode cX1_remember 69 = .ok (.putfield 26, 3) := kd_r kbX1_remember ki_59 rfl
theorem dX1_remember_72 : decode cX1_remember 72 = .ok (.return_, 1) := kd_r kbX1_remember ki_5 rfl
theorem dX1_forgetOldest_0 : decode cX1_forgetOldest 0 = .ok (.iconst 1, 1) := kd_r kbX1_forgetOldest ki_16 rfl
theorem dX1_forgetOldest_1 : decode cX1_forgetOldest 1 = .ok (.istore_n 1, 1) := kd_r kbX1_forgetOldest ki_60 rfl
theorem dX1_forgetOldest_2 : decode cX1_forgetOldest 2 = .ok (.iload_n 1, 1) := kd_r kbX1_forgetOldest ki_8 rfl
theorem dX1_forgetOldest_3 : decode cX1_forgetOldest 3 = .ok (.bipush 40, 2) := kd_r kbX1_forgetOldest ki_44 rfl
theorem dX1_forgetOldest_5 : decode cX1_forgetOldest 5 = .ok (.if_icmp .ge 65, 3) := kd_r kbX1_forgetOldest ki_61 rfl
theorem dX1_forgetOldest_8 : decode cX1_forgetOldest 8 = .ok (.aload_n 0, 1) := kd_r kbX1_forgetOldest ki_0 rfl
theorem dX1_forgetOldest_9 : decode cX1_forgetOldest 9 = .ok (.getfield 9, 3) := kd_r kbX1_forgetOldest ki_13 rfl
theorem dX1_forgetOldest_12 : decode cX1_forgetOldest 12 = .ok (.iload_n 1, 1) := kd_r kbX1_forgetOldest ki_8 rfl
theorem dX1_forgetOldest_13 : decode cX1_forgetOldest 13 = .ok (.iconst 1, 1) := kd_r kbX1_forgetOldest ki_16 rfl
theorem dX1_forgetOldest_14 : decode cX1_forgetOldest 14 = .ok (.isub, 1) := kd_r kbX1_forgetOldest ki_50 rfl
theorem dX1_forgetOldest_15 : decode cX1_forgetOldest 15 = .ok (.aload_n 0, 1) := kd_r kbX1_forgetOldest ki_0 rfl
theorem dX1_forgetOldest_16 : decode cX1_forgetOldest 16 = .ok (.getfield 9, 3) := kd_r kbX1_forgetOldest ki_13 rfl
theorem dX1_forgetOldest_19 : decode cX1_forgetOldest 19 = .ok (.iload_n 1, 1) := kd_r kbX1_forgetOldest ki_8 rfl
theorem dX1_forgetOldest_20 : decode cX1_forgetOldest 20 = .ok (.iaload, 1) := kd_r kbX1_forgetOldest ki_14 rfl
theorem dX1_forgetOldest_21 : decode cX1_forgetOldest 21 = .ok (.iastore, 1) := kd_r kbX1_forgetOldest ki_28 rfl
theorem dX1_forgetOldest_22 : decode cX1_forgetOldest 22 = .ok (.aload_n 0, 1) := kd_r kbX1_forgetOldest ki_0 rfl
theorem dX1_forgetOldest_23 : decode cX1_forgetOldest 23 = .ok (.getfield 13, 3) := kd_r kbX1_forgetOldest ki_53 rfl
theorem dX1_forgetOldest_26 : decode cX1_forgetOldest 26 = .ok (.iload_n 1, 1) := kd_r kbX1_forgetOldest ki_8 rfl
theorem dX1_forgetOldest_27 : decode cX1_forgetOldest 27 = .ok (.iconst 1, 1) := kd_r kbX1_forgetOldest ki_16 rfl
theorem dX1_forgetOldest_28 : decode cX1_forgetOldest 28 = .ok (.isub, 1) := kd_r kbX1_forgetOldest ki_50 rfl
theorem dX1_forgetOldest_29 : decode cX1_forgetOldest 29 = .ok (.aload_n 0, 1) := kd_r kbX1_forgetOldest ki_0 rfl
theorem dX1_forgetOldest_30 : decode cX1_forgetOldest 30 = .ok (.getfield 13, 3) := kd_r kbX1_forgetOldest ki_53 rfl
theorem dX1_forgetOldest_33 : decode cX1_forgetOldest 33 = .ok (.iload_n 1, 1) := kd_r kbX1_forgetOldest ki_8 rfl
theorem dX1_forgetOldest_34 : decode cX1_forgetOldest 34 = .ok (.iaload, 1) := kd_r kbX1_forgetOldest ki_14 rfl
theorem dX1_forgetOldest_35 : decode cX1_forgetOldest 35 = .ok (.iastore, 1) := kd_r kbX1_forgetOldest ki_28 rfl
theorem dX1_forgetOldest_36 : decode cX1_forgetOldest 36 = .ok (.aload_n 0, 1) := kd_r kbX1_forgetOldest ki_0 rfl
theorem dX1_forgetOldest_37 : decode cX1_forgetOldest 37 = .ok (.getfield 16, 3) := kd_r kbX1_forgetOldest ki_54 rfl
theorem dX1_forgetOldest_40 : decode cX1_forgetOldest 40 = .ok (.iload_n 1, 1) := kd_r kbX1_forgetOldest ki_8 rfl
theorem dX1_forgetOldest_41 : decode cX1_forgetOldest 41 = .ok (.iconst 1, 1) := kd_r kbX1_forgetOldest ki_16 rfl
theorem dX1_forgetOldest_42 : decode cX1_forgetOldest 42 = .ok (.isub, 1) := kd_r kbX1_forgetOldest ki_50 rfl
theorem dX1_forgetOldest_43 : decode cX1_forgetOldest 43 = .ok (.aload_n 0, 1) := kd_r kbX1_forgetOldest ki_0 rfl
theorem dX1_forgetOldest_44 : decode cX1_forgetOldest 44 = .ok (.getfield 16, 3) := kd_r kbX1_forgetOldest ki_54 rfl
theorem dX1_forgetOldest_47 : decode cX1_forgetOldest 47 = .ok (.iload_n 1, 1) := kd_r kbX1_forgetOldest ki_8 rfl
theorem dX1_forgetOldest_48 : decode cX1_forgetOldest 48 = .ok (.iaload, 1) := kd_r kbX1_forgetOldest ki_14 rfl
theorem dX1_forgetOldest_49 : decode cX1_forgetOldest 49 = .ok (.iastore, 1) := kd_r kbX1_forgetOldest ki_28 rfl
theorem dX1_forgetOldest_50 : decode cX1_forgetOldest 50 = .ok (.aload_n 0, 1) := kd_r kbX1_forgetOldest ki_0 rfl
theorem dX1_forgetOldest_51 : decode cX1_forgetOldest 51 = .ok (.getfield 19, 3) := kd_r kbX1_forgetOldest ki_56 rfl
theorem dX1_forgetOldest_54 : decode cX1_forgetOldest 54 = .ok (.iload_n 1, 1) := kd_r kbX1_forgetOldest ki_8 rfl
theorem dX1_forgetOldest_55 : decode cX1_forgetOldest 55 = .ok (.iconst 1, 1) := kd_r kbX1_forgetOldest ki_16 rfl
theorem dX1_forgetOldest_56 : decode cX1_forgetOldest 56 = .ok (.isub, 1) := kd_r kbX1_forgetOldest ki_50 rfl
theorem dX1_forgetOldest_57 : decode cX1_forgetOldest 57 = .ok (.aload_n 0, 1) := kd_r kbX1_forgetOldest ki_0 rfl
theorem dX1_forgetOldest_58 : decode cX1_forgetOldest 58 = .ok (.getfield 19, 3) := kd_r kbX1_forgetOldest ki_56 rfl
theorem dX1_forgetOldest_61 : decode cX1_forgetOldest 61 = .ok (.iload_n 1, 1) := kd_r kbX1_forgetOldest ki_8 rfl
theorem dX1_forgetOldest_62 : decode cX1_forgetOldest 62 = .ok (.iaload, 1) := kd_r kbX1_forgetOldest ki_14 rfl
theorem dX1_forgetOldest_63 : decode cX1_forgetOldest 63 = .ok (.iastore, 1) := kd_r kbX1_forgetOldest ki_28 rfl
theorem dX1_forgetOldest_64 : decode cX1_forgetOldest 64 = .ok (.iinc 1 1, 3) := kd_r kbX1_forgetOldest ki_62 rfl
theorem dX1_forgetOldest_67 : decode cX1_forgetOldest 67 = .ok (.goto (-65), 3) := kd_r kbX1_forgetOldest ki_63 rfl
theorem dX1_forgetOldest_70 : decode cX1_forgetOldest 70 = .ok (.aload_n 0, 1) := kd_r kbX1_forgetOldest ki_0 rfl
theorem dX1_forgetOldest_71 : decode cX1_forgetOldest 71 = .ok (.bipush 39, 2) := kd_r kbX1_forgetOldest ki_64 rfl
theorem dX1_forgetOldest_73 : decode cX1_forgetOldest 73 = .ok (.putfield 22, 3) := kd_r kbX1_forgetOldest ki_58 rfl
theorem dX1_forgetOldest_76 : decode cX1_forgetOldest 76 = .ok (.return_, 1) := kd_r kbX1_forgetOldest ki_5 rfl
theorem dX1_stepBack_0 : decode cX1_stepBack 0 = .ok (.aload_n 0, 1) := kd_r kbX1_stepBack ki_0 rfl
theorem dX1_stepBack_1 : decode cX1_stepBack 1 = .ok (.getfield 22, 3) := kd_r kbX1_stepBack ki_48 rfl
theorem dX1_stepBack_4 : decode cX1_stepBack 4 = .ok (.ifCond .le 13, 3) := kd_r kbX1_stepBack ki_65 rfl
theorem dX1_stepBack_7 : decode cX1_stepBack 7 = .ok (.aload_n 0, 1) := kd_r kbX1_stepBack ki_0 rfl
theorem dX1_stepBack_8 : decode cX1_stepBack 8 = .ok (.dup, 1) := kd_r kbX1_stepBack ki_29 rfl
theorem dX1_stepBack_9 : decode cX1_stepBack 9 = .ok (.getfield 22, 3) := kd_r kbX1_stepBack ki_48 rfl
theorem dX1_stepBack_12 : decode cX1_stepBack 12 = .ok (.iconst 1, 1) := kd_r kbX1_stepBack ki_16 rfl
theorem dX1_stepBack_13 : decode cX1_stepBack 13 = .ok (.isub, 1) := kd_r kbX1_stepBack ki_50 rfl
theorem dX1_stepBack_14 : decode cX1_stepBack 14 = .ok (.putfield 22, 3) := kd_r kbX1_stepBack ki_58 rfl
theorem dX1_stepBack_17 : decode cX1_stepBack 17 = .ok (.aload_n 0, 1) := kd_r kbX1_stepBack ki_0 rfl
theorem dX1_stepBack_18 : decode cX1_stepBack 18 = .ok (.getfield 22, 3) := kd_r kbX1_stepBack ki_48 rfl
theorem dX1_stepBack_21 : decode cX1_stepBack 21 = .ok (.ireturn, 1) := kd_r kbX1_stepBack ki_7 rfl
theorem dX1_stepOn_0 : decode cX1_stepOn 0 = .ok (.aload_n 0, 1) := kd_r kbX1_stepOn ki_0 rfl
theorem dX1_stepOn_1 : decode cX1_stepOn 1 = .ok (.getfield 22, 3) := kd_r kbX1_stepOn ki_48 rfl
theorem dX1_stepOn_4 : decode cX1_stepOn 4 = .ok (.aload_n 0, 1) := kd_r kbX1_stepOn ki_0 rfl
theorem dX1_stepOn_5 : decode cX1_stepOn 5 = .ok (.getfield 26, 3) := kd_r kbX1_stepOn ki_49 rfl
theorem dX1_stepOn_8 : decode cX1_stepOn 8 = .ok (.if_icmp .ge 13, 3) := kd_r kbX1_stepOn ki_66 rfl
theorem dX1_stepOn_11 : decode cX1_stepOn 11 = .ok (.aload_n 0, 1) := kd_r kbX1_stepOn ki_0 rfl
theorem dX1_stepOn_12 : decode cX1_stepOn 12 = .ok (.dup, 1) := kd_r kbX1_stepOn ki_29 rfl
theorem dX1_stepOn_13 : decode cX1_stepOn 13 = .ok (.getfield 22, 3) := kd_r kbX1_stepOn ki_48 rfl
theorem dX1_stepOn_16 : decode cX1_stepOn 16 = .ok (.iconst 1, 1) := kd_r kbX1_stepOn ki_16 rfl
theorem dX1_stepOn_17 : decode cX1_stepOn 17 = .ok (.iadd, 1) := kd_r kbX1_stepOn ki_30 rfl
theorem dX1_stepOn_18 : decode cX1_stepOn 18 = .ok (.putfield 22, 3) := kd_r kbX1_stepOn ki_58 rfl
theorem dX1_stepOn_21 : decode cX1_stepOn 21 = .ok (.aload_n 0, 1) := kd_r kbX1_stepOn ki_0 rfl
theorem dX1_stepOn_22 : decode cX1_stepOn 22 = .ok (.getfield 26, 3) := kd_r kbX1_stepOn ki_49 rfl
theorem dX1_stepOn_25 : decode cX1_stepOn 25 = .ok (.aload_n 0, 1) := kd_r kbX1_stepOn ki_0 rfl
theorem dX1_stepOn_26 : decode cX1_stepOn 26 = .ok (.getfield 22, 3) := kd_r kbX1_stepOn ki_48 rfl
theorem dX1_stepOn_29 : decode cX1_stepOn 29 = .ok (.isub, 1) := kd_r kbX1_stepOn ki_50 rfl
theorem dX1_stepOn_30 : decode cX1_stepOn 30 = .ok (.ireturn, 1) := kd_r kbX1_stepOn ki_7 rfl
set_option maxRecDepth 20000 in
theorem ggX1_lastPlot_X1_last : GoodIn wsX1_lastPlot wsX1_last := goodIn_r _ [6, 7, 8, 9, 10, 11, 12, 13] rfl (by decide +kernel)
set_option maxRecDepth 20000 in
theorem gX1_lastPlot_X1_last : GoodIn wsX1_lastPlot (wsV RX1 32 RX1 yX1_last wsX1_last) := goodIn_app (goodIn_of _ (by decide +kernel)) ggX1_lastPlot_X1_last
theorem dX1_lastPlot_0 : decode cX1_lastPlot 0 = .ok (.aload_n 0, 1) := kd_r kbX1_lastPlot ki_0 rfl
theorem dX1_lastPlot_1 : decode cX1_lastPlot 1 = .ok (.aload_n 0, 1) := kd_r kbX1_lastPlot ki_0 rfl
theorem dX1_lastPlot_2 : decode cX1_lastPlot 2 = .ok (.getfield 9, 3) := kd_r kbX1_lastPlot ki_13 rfl
theorem dX1_lastPlot_5 : decode cX1_lastPlot 5 = .ok (.invokevirtual 32, 3) := kd_r kbX1_lastPlot ki_67 rfl
theorem dX1_lastPlot_8 : decode cX1_lastPlot 8 = .ok (.ireturn, 1) := kd_r kbX1_lastPlot ki_7 rfl
set_option maxRecDepth 20000 in
theorem ggX1_lastWhat_X1_last : GoodIn wsX1_lastWhat wsX1_last := goodIn_r _ [6, 7, 8, 9, 10, 11, 12, 13] rfl (by decide +kernel)
set_option maxRecDepth 20000 in
theorem gX1_lastWhat_X1_last : GoodIn wsX1_lastWhat (wsV RX1 32 RX1 yX1_last wsX1_last) := goodIn_app (goodIn_of _ (by decide +kernel)) ggX1_lastWhat_X1_last
theorem dX1_lastWhat_0 : decode cX1_lastWhat 0 = .ok (.aload_n 0, 1) := kd_r kbX1_lastWhat ki_0 rfl
theorem dX1_lastWhat_1 : decode cX1_lastWhat 1 = .ok (.aload_n 0, 1) := kd_r kbX1_lastWhat ki_0 rfl
theorem dX1_lastWhat_2 : decode cX1_lastWhat 2 = .ok (.getfield 13, 3) := kd_r kbX1_lastWhat ki_53 rfl
theorem dX1_lastWhat_5 : decode cX1_lastWhat 5 = .ok (.invokevirtual 32, 3) := kd_r kbX1_lastWhat ki_67 rfl
theorem dX1_lastWhat_8 : decode cX1_lastWhat 8 = .ok (.ireturn, 1) := kd_r kbX1_lastWhat ki_7 rfl
set_option maxRecDepth 20000 in
theorem ggX1_lastBefore_X1_last : GoodIn wsX1_lastBefore wsX1_last := goodIn_r _ [6, 7, 8, 9, 10, 11, 12, 13] rfl (by decide +kernel)
set_option maxRecDepth 20000 in
theorem gX1_lastBefore_X1_last : GoodIn wsX1_lastBefore (wsV RX1 32 RX1 yX1_last wsX1_last) := goodIn_app (goodIn_of _ (by decide +kernel)) ggX1_lastBefore_X1_last
theorem dX1_lastBefore_0 : decode cX1_lastBefore 0 = .ok (.aload_n 0, 1) := kd_r kbX1_lastBefore ki_0 rfl
theorem dX1_lastBefore_1 : decode cX1_lastBefore 1 = .ok (.aload_n 0, 1) := kd_r kbX1_lastBefore ki_0 rfl
theorem dX1_lastBefore_2 : decode cX1_lastBefore 2 = .ok (.getfield 16, 3) := kd_r kbX1_lastBefore ki_54 rfl
theorem dX1_lastBefore_5 : decode cX1_lastBefore 5 = .ok (.invokevirtual 32, 3) := kd_r kbX1_lastBefore ki_67 rfl
theorem dX1_lastBefore_8 : decode cX1_lastBefore 8 = .ok (.ireturn, 1) := kd_r kbX1_lastBefore ki_7 rfl
set_option maxRecDepth 20000 in
theorem ggX1_lastAfter_X1_last : GoodIn wsX1_lastAfter wsX1_last := goodIn_r _ [6, 7, 8, 9, 10, 11, 12, 13] rfl (by decide +kernel)
set_option maxRecDepth 20000 in
theorem gX1_lastAfter_X1_last : GoodIn wsX1_lastAfter (wsV RX1 32 RX1 yX1_last wsX1_last) := goodIn_app (goodIn_of _ (by decide +kernel)) ggX1_lastAfter_X1_last
theorem dX1_lastAfter_0 : decode cX1_lastAfter 0 = .ok (.aload_n 0, 1) := kd_r kbX1_lastAfter ki_0 rfl
theorem dX1_lastAfter_1 : decode cX1_lastAfter 1 = .ok (.aload_n 0, 1) := kd_r kbX1_lastAfter ki_0 rfl
theorem dX1_lastAfter_2 : decode cX1_lastAfter 2 = .ok (.getfield 19, 3) := kd_r kbX1_lastAfter ki_56 rfl
theorem dX1_lastAfter_5 : decode cX1_lastAfter 5 = .ok (.invokevirtual 32, 3) := kd_r kbX1_lastAfter ki_67 rfl
theorem dX1_lastAfter_8 : decode cX1_lastAfter 8 = .ok (.ireturn, 1) := kd_r kbX1_lastAfter ki_7 rfl
theorem dX1_last_0 : decode cX1_last 0 = .ok (.aload_n 0, 1) := kd_r kbX1_last ki_0 rfl
theorem dX1_last_1 : decode cX1_last 1 = .ok (.getfield 22, 3) := kd_r kbX1_last ki_48 rfl
theorem dX1_last_4 : decode cX1_last 4 = .ok (.ifCond .le 23, 3) := kd_r kbX1_last ki_68 rfl
theorem dX1_last_7 : decode cX1_last 7 = .ok (.aload_n 0, 1) := kd_r kbX1_last ki_0 rfl
theorem dX1_last_8 : decode cX1_last 8 = .ok (.getfield 22, 3) := kd_r kbX1_last ki_48 rfl
theorem dX1_last_11 : decode cX1_last 11 = .ok (.aload_n 1, 1) := kd_r kbX1_last ki_69 rfl
theorem dX1_last_12 : decode cX1_last 12 = .ok (.arraylength, 1) := kd_r kbX1_last ki_33 rfl
theorem dX1_last_13 : decode cX1_last 13 = .ok (.if_icmp .gt 14, 3) := kd_r kbX1_last ki_70 rfl
theorem dX1_last_16 : decode cX1_last 16 = .ok (.aload_n 1, 1) := kd_r kbX1_last ki_69 rfl
theorem dX1_last_17 : decode cX1_last 17 = .ok (.aload_n 0, 1) := kd_r kbX1_last ki_0 rfl
theorem dX1_last_18 : decode cX1_last 18 = .ok (.getfield 22, 3) := kd_r kbX1_last ki_48 rfl
theorem dX1_last_21 : decode cX1_last 21 = .ok (.iconst 1, 1) := kd_r kbX1_last ki_16 rfl
theorem dX1_last_22 : decode cX1_last 22 = .ok (.isub, 1) := kd_r kbX1_last ki_50 rfl
theorem dX1_last_23 : decode cX1_last 23 = .ok (.iaload, 1) := kd_r kbX1_last ki_14 rfl
theorem dX1_last_24 : decode cX1_last 24 = .ok (.goto 4, 3) := kd_r kbX1_last ki_19 rfl
theorem dX1_last_27 : decode cX1_last 27 = .ok (.iconst 0, 1) := kd_r kbX1_last ki_20 rfl
theorem dX1_last_28 : decode cX1_last 28 = .ok (.ireturn, 1) := kd_r kbX1_last ki_7 rfl
theorem dX2_init_0 : decode cX2_init 0 = .ok (.aload_n 0, 1) := kd_r kbX2_init ki_0 rfl
theorem dX2_init_1 : decode cX2_init 1 = .ok (.invokespecial 3, 3) := kd_r kbX2_init ki_1 rfl
theorem dX2_init_4 : decode cX2_init 4 = .ok (.aload_n 0, 1) := kd_r kbX2_init ki_0 rfl
theorem dX2_init_5 : decode cX2_init 5 = .ok (.bipush 10, 2) := kd_r kbX2_init ki_71 rfl
theorem dX2_init_7 : decode cX2_init 7 = .ok (.newarray .int, 2) := kd_r kbX2_init ki_3 rfl
theorem dX2_init_9 : decode cX2_init 9 = .ok (.putfield 11, 3) := kd_r kbX2_init ki_72 rfl
theorem dX2_init_12 : decode cX2_init 12 = .ok (.aload_n 0, 1) := kd_r kbX2_init ki_0 rfl
theorem dX2_init_13 : decode cX2_init 13 = .ok (.bipush 10, 2) := kd_r kbX2_init ki_71 rfl
theorem dX2_init_15 : decode cX2_init 15 = .ok (.newarray .int, 2) := kd_r kbX2_init ki_3 rfl
theorem dX2_init_17 : decode cX2_init 17 = .ok (.putfield 15, 3) := kd_r kbX2_init ki_31 rfl
theorem dX2_init_20 : decode cX2_init 20 = .ok (.aload_n 0, 1) := kd_r kbX2_init ki_0 rfl
theorem dX2_init_21 : decode cX2_init 21 = .ok (.bipush 10, 2) := kd_r kbX2_init ki_71 rfl
theorem dX2_init_23 : decode cX2_init 23 = .ok (.newarray .int, 2) := kd_r kbX2_init ki_3 rfl
theorem dX2_init_25 : decode cX2_init 25 = .ok (.putfield 18, 3) := kd_r kbX2_init ki_73 rfl
theorem dX2_init_28 : decode cX2_init 28 = .ok (.aload_n 0, 1) := kd_r kbX2_init ki_0 rfl
theorem dX2_init_29 : decode cX2_init 29 = .ok (.bipush 8, 2) := kd_r kbX2_init ki_74 rfl
theorem dX2_init_31 : decode cX2_init 31 = .ok (.newarray .int, 2) := kd_r kbX2_init ki_3 rfl
theorem dX2_init_33 : decode cX2_init 33 = .ok (.putfield 21, 3) := kd_r kbX2_init ki_75 rfl
theorem dX2_init_36 : decode cX2_init 36 = .ok (.aload_n 0, 1) := kd_r kbX2_init ki_0 rfl
theorem dX2_init_37 : decode cX2_init 37 = .ok (.bipush 40, 2) := kd_r kbX2_init ki_44 rfl
theorem dX2_init_39 : decode cX2_init 39 = .ok (.newarray .int, 2) := kd_r kbX2_init ki_3 rfl
theorem dX2_init_41 : decode cX2_init 41 = .ok (.putfield 24, 3) := kd_r kbX2_init ki_76 rfl
theorem dX2_init_44 : decode cX2_init 44 = .ok (.aload_n 0, 1) := kd_r kbX2_init ki_0 rfl
theorem dX2_init_45 : decode cX2_init 45 = .ok (.bipush 25, 2) := kd_r kbX2_init ki_77 rfl
theorem dX2_init_47 : decode cX2_init 47 = .ok (.bipush 40, 2) := kd_r kbX2_init ki_44 rfl
theorem dX2_init_49 : decode cX2_init 49 = .ok (.multianewarray 27 2, 4) := by decide +kernel
theorem dX2_init_53 : decode cX2_init 53 = .ok (.putfield 29, 3) := kd_r kbX2_init ki_78 rfl
theorem dX2_init_56 : decode cX2_init 56 = .ok (.aload_n 0, 1) := kd_r kbX2_init ki_0 rfl
theorem dX2_init_57 : decode cX2_init 57 = .ok (.iconst 5, 1) := kd_r kbX2_init ki_79 rfl
theorem dX2_init_58 : decode cX2_init 58 = .ok (.iconst 5, 1) := kd_r kbX2_init ki_79 rfl
theorem dX2_init_59 : decode cX2_init 59 = .ok (.multianewarray 27 2, 4) := by decide +kernel
theorem dX2_init_63 : decode cX2_init 63 = .ok (.putfield 32, 3) := kd_r kbX2_init ki_80 rfl
theorem dX2_init_66 : decode cX2_init 66 = .ok (.aload_n 0, 1) := kd_r kbX2_init ki_0 rfl
theorem dX2_init_67 : decode cX2_init 67 = .ok (.iconst 5, 1) := kd_r kbX2_init ki_79 rfl
theorem dX2_init_68 : decode cX2_init 68 = .ok (.newarray .int, 2) := kd_r kbX2_init ki_3 rfl
theorem dX2_init_70 : decode cX2_init 70 = .ok (.putfield 35, 3) := kd_r kbX2_init ki_81 rfl
theorem dX2_init_73 : decode cX2_init 73 = .ok (.aload_n 0, 1) := kd_r kbX2_init ki_0 rfl
theorem dX2_init_74 : decode cX2_init 74 = .ok (.iconst 5, 1) := kd_r kbX2_init ki_79 rfl
theorem dX2_init_75 : decode cX2_init 75 = .ok (.newarray .int, 2) := kd_r kbX2_init ki_3 rfl
theorem dX2_init_77 : decode cX2_init 77 = .ok (.putfield 38, 3) := kd_r kbX2_init ki_82 rfl
theorem dX2_init_80 : decode cX2_init 80 = .ok (.return_, 1) := kd_r kbX2_init ki_5 rfl
theorem dX2_isName_0 : decode cX2_isName 0 = .ok (.iload_n 0, 1) := kd_r kbX2_isName ki_40 rfl
theorem dX2_isName_1 : decode cX2_isName 1 = .ok (.ifCond .lt 13, 3) := kd_r kbX2_isName ki_41 rfl
theorem dX2_isName_4 : decode cX2_isName 4 = .ok (.iload_n 0, 1) := kd_r kbX2_isName ki_40 rfl
theorem dX2_isName_5 : decode cX2_isName 5 = .ok (.bipush 8, 2) := kd_r kbX2_isName ki_74 rfl
theorem dX2_isName_7 : decode cX2_isName 7 = .ok (.if_icmp .ge 7, 3) := kd_r kbX2_isName ki_42 rfl
theorem dX2_isName_10 : decode cX2_isName 10 = .ok (.iconst 1, 1) := kd_r kbX2_isName ki_16 rfl
theorem dX2_isName_11 : decode cX2_isName 11 = .ok (.goto 4, 3) := kd_r kbX2_isName ki_19 rfl
theorem dX2_isName_14 : decode cX2_isName 14 = .ok (.iconst 0, 1) := kd_r kbX2_isName ki_20 rfl
theorem dX2_isName_15 : decode cX2_isName 15 = .ok (.ireturn, 1) := kd_r kbX2_isName ki_7 rfl
theorem dX2_size_0 : decode cX2_size 0 = .ok (.aload_n 0, 1) := kd_r kbX2_size ki_0 rfl
theorem dX2_size_1 : decode cX2_size 1 = .ok (.getfield 41, 3) := kd_r kbX2_size ki_83 rfl
theorem dX2_size_4 : decode cX2_size 4 = .ok (.ireturn, 1) := kd_r kbX2_size ki_7 rfl
theorem dX2_isFull_0 : decode cX2_isFull 0 = .ok (.aload_n 0, 1) := kd_r kbX2_isFull ki_0 rfl
theorem dX2_isFull_1 : decode cX2_isFull 1 = .ok (.getfield 41, 3) := kd_r kbX2_isFull ki_83 rfl
theorem dX2_isFull_4 : decode cX2_isFull 4 = .ok (.bipush 10, 2) := kd_r kbX2_isFull ki_71 rfl
theorem dX2_isFull_6 : decode cX2_isFull 6 = .ok (.if_icmp .lt 7, 3) := kd_r kbX2_isFull ki_51 rfl
theorem dX2_isFull_9 : decode cX2_isFull 9 = .ok (.iconst 1, 1) := kd_r kbX2_isFull ki_16 rfl
theorem dX2_isFull_10 : decode cX2_isFull 10 = .ok (.goto 4, 3) := kd_r kbX2_isFull ki_19 rfl
theorem dX2_isFull_13 : decode cX2_isFull 13 = .ok (.iconst 0, 1) := kd_r kbX2_isFull ki_20 rfl
theorem dX2_isFull_14 : decode cX2_isFull 14 = .ok (.ireturn, 1) := kd_r kbX2_isFull ki_7 rfl
set_option maxRecDepth 20000 in
theorem ggX2_write_X2_isFull : GoodIn wsX2_write wsX2_isFull := goodIn_r _ [9, 2, 10, 11, 12, 13, 14, 15, 16, 17, 18, 19, 20, 21, 22] rfl (by decide +kernel)
set_option maxRecDepth 20000 in
theorem gX2_write_X2_isFull : GoodIn wsX2_write (wsV RX2 45 RX2 yX2_isFull wsX2_isFull) := goodIn_app (goodIn_of _ (by decide +kernel)) ggX2_write_X2_isFull
theorem dX2_write_0 : decode cX2_write 0 = .ok (.aload_n 0, 1) := kd_r kbX2_write ki_0 rfl
theorem dX2_write_1 : decode cX2_write 1 = .ok (.invokevirtual 45, 3) := kd_r kbX2_write ki_84 rfl
theorem dX2_write_4 : decode cX2_write 4 = .ok (.ifCond .ne 43, 3) := kd_r kbX2_write ki_85 rfl
theorem dX2_write_7 : decode cX2_write 7 = .ok (.aload_n 0, 1) := kd_r kbX2_write ki_0 rfl
theorem dX2_write_8 : decode cX2_write 8 = .ok (.getfield 11, 3) := kd_r kbX2_write ki_86 rfl
theorem dX2_write_11 : decode cX2_write 11 = .ok (.aload_n 0, 1) := kd_r kbX2_write ki_0 rfl
theorem dX2_write_12 : decode cX2_write 12 = .ok (.getfield 41, 3) := kd_r kbX2_write ki_83 rfl
theorem dX2_write_15 : decode cX2_write 15 = .ok (.iload_n 1, 1) := kd_r kbX2_write ki_8 rfl
theorem dX2_write_16 : decode cX2_write 16 = .ok (.iastore, 1) := kd_r kbX2_write ki_28 rfl
theorem dX2_write_17 : decode cX2_write 17 = .ok (.aload_n 0, 1) := kd_r kbX2_write ki_0 rfl
theorem dX2_write_18 : decode cX2_write 18 = .ok (.getfield 15, 3) := kd_r kbX2_write ki_6 rfl
theorem dX2_write_21 : decode cX2_write 21 = .ok (.aload_n 0, 1) := kd_r kbX2_write ki_0 rfl
theorem dX2_write_22 : decode cX2_write 22 = .ok (.getfield 41, 3) := kd_r kbX2_write ki_83 rfl
theorem dX2_write_25 : decode cX2_write 25 = .ok (.iload_n 2, 1) := kd_r kbX2_write ki_11 rfl
theorem dX2_write_26 : decode cX2_write 26 = .ok (.iastore, 1) := kd_r kbX2_write ki_28 rfl
theorem dX2_write_27 : decode cX2_write 27 = .ok (.aload_n 0, 1) := kd_r kbX2_write ki_0 rfl
theorem dX2_write_28 : decode cX2_write 28 = .ok (.getfield 18, 3) := kd_r kbX2_write ki_87 rfl
theorem dX2_write_31 : decode cX2_write 31 = .ok (.aload_n 0, 1) := kd_r kbX2_write ki_0 rfl
theorem dX2_write_32 : decode cX2_write 32 = .ok (.getfield 41, 3) := kd_r kbX2_write ki_83 rfl
theorem dX2_write_35 : decode cX2_write 35 = .ok (.iload_n 3, 1) := kd_r kbX2_write ki_55 rfl
theorem dX2_write_36 : decode cX2_write 36 = .ok (.iastore, 1) := kd_r kbX2_write ki_28 rfl
theorem dX2_write_37 : decode cX2_write 37 = .ok (.aload_n 0, 1) := kd_r kbX2_write ki_0 rfl
theorem dX2_write_38 : decode cX2_write 38 = .ok (.dup, 1) := kd_r kbX2_write ki_29 rfl
theorem dX2_write_39 : decode cX2_write 39 = .ok (.getfield 41, 3) := kd_r kbX2_write ki_83 rfl
theorem dX2_write_42 : decode cX2_write 42 = .ok (.iconst 1, 1) := kd_r kbX2_write ki_16 rfl
theorem dX2_write_43 : decode cX2_write 43 = .ok (.iadd, 1) := kd_r kbX2_write ki_30 rfl
theorem dX2_write_44 : decode cX2_write 44 = .ok (.putfield 41, 3) := kd_r kbX2_write ki_88 rfl
theorem dX2_write_47 : decode cX2_write 47 = .ok (.aload_n 0, 1) := kd_r kbX2_write ki_0 rfl
theorem dX2_write_48 : decode cX2_write 48 = .ok (.getfield 41, 3) := kd_r kbX2_write ki_83 rfl
theorem dX2_write_51 : decode cX2_write 51 = .ok (.ireturn, 1) := kd_r kbX2_write ki_7 rfl
theorem dX2_clear_0 : decode cX2_clear 0 = .ok (.aload_n 0, 1) := kd_r kbX2_clear ki_0 rfl
theorem dX2_clear_1 : decode cX2_clear 1 = .ok (.getfield 41, 3) := kd_r kbX2_clear ki_83 rfl
theorem dX2_clear_4 : decode cX2_clear 4 = .ok (.istore_n 1, 1) := kd_r kbX2_clear ki_60 rfl
theorem dX2_clear_5 : decode cX2_clear 5 = .ok (.aload_n 0, 1) := kd_r kbX2_clear ki_0 rfl
theorem dX2_clear_6 : decode cX2_clear 6 = .ok (.iconst 0, 1) := kd_r kbX2_clear ki_20 rfl
theorem dX2_clear_7 : decode cX2_clear 7 = .ok (.putfield 41, 3) := kd_r kbX2_clear ki_88 rfl
theorem dX2_clear_10 : decode cX2_clear 10 = .ok (.iload_n 1, 1) := kd_r kbX2_clear ki_8 rfl
theorem dX2_clear_11 : decode cX2_clear 11 = .ok (.ireturn, 1) := kd_r kbX2_clear ki_7 rfl
theorem dX2_mention_0 : decode cX2_mention 0 = .ok (.iconst 0, 1) := kd_r kbX2_mention ki_20 rfl
theorem dX2_mention_1 : decode cX2_mention 1 = .ok (.istore_n 2, 1) := kd_r kbX2_mention ki_32 rfl
theorem dX2_mention_2 : decode cX2_mention 2 = .ok (.iload_n 2, 1) := kd_r kbX2_mention ki_11 rfl
theorem dX2_mention_3 : decode cX2_mention 3 = .ok (.aload_n 0, 1) := kd_r kbX2_mention ki_0 rfl
theorem dX2_mention_4 : decode cX2_mention 4 = .ok (.getfield 41, 3) := kd_r kbX2_mention ki_83 rfl
theorem dX2_mention_7 : decode cX2_mention 7 = .ok (.if_icmp .ge 31, 3) := kd_r kbX2_mention ki_89 rfl
theorem dX2_mention_10 : decode cX2_mention 10 = .ok (.aload_n 0, 1) := kd_r kbX2_mention ki_0 rfl
theorem dX2_mention_11 : decode cX2_mention 11 = .ok (.getfield 11, 3) := kd_r kbX2_mention ki_86 rfl
theorem dX2_mention_14 : decode cX2_mention 14 = .ok (.iload_n 2, 1) := kd_r kbX2_mention ki_11 rfl
theorem dX2_mention_15 : decode cX2_mention 15 = .ok (.iaload, 1) := kd_r kbX2_mention ki_14 rfl
theorem dX2_mention_16 : decode cX2_mention 16 = .ok (.iload_n 1, 1) := kd_r kbX2_mention ki_8 rfl
theorem dX2_mention_17 : decode cX2_mention 17 = .ok (.if_icmp .eq 13, 3) := kd_r kbX2_mention ki_90 rfl
theorem dX2_mention_20 : decode cX2_mention 20 = .ok (.aload_n 0, 1) := kd_r kbX2_mention ki_0 rfl
theorem dX2_mention_21 : decode cX2_mention 21 = .ok (.getfield 15, 3) := kd_r kbX2_mention ki_6 rfl
theorem dX2_mention_24 : decode cX2_mention 24 = .ok (.iload_n 2, 1) := kd_r kbX2_mention ki_11 rfl
theorem dX2_mention_25 : decode cX2_mention 25 = .ok (.iaload, 1) := kd_r kbX2_mention ki_14 rfl
theorem dX2_mention_26 : decode cX2_mention 26 = .ok (.iload_n 1, 1) := kd_r kbX2_mention ki_8 rfl
theorem dX2_mention_27 : decode cX2_mention 27 = .ok (.if_icmp .ne 5, 3) := kd_r kbX2_mention ki_91 rfl
theorem dX2_mention_30 : decode cX2_mention 30 = .ok (.iconst 1, 1) := kd_r kbX2_mention ki_16 rfl
theorem dX2_mention_31 : decode cX2_mention 31 = .ok (.ireturn, 1) := kd_r kbX2_mention ki_7 rfl
theorem dX2_mention_32 : decode cX2_mention 32 = .ok (.iinc 2 1, 3) := kd_r kbX2_mention ki_37 rfl
theorem dX2_mention_35 : decode cX2_mention 35 = .ok (.goto (-33), 3) := kd_r kbX2_mention ki_38 rfl
theorem dX2_mention_38 : decode cX2_mention 38 = .ok (.iconst 0, 1) := kd_r kbX2_mention ki_20 rfl
theorem dX2_mention_39 : decode cX2_mention 39 = .ok (.ireturn, 1) := kd_r kbX2_mention ki_7 rfl
set_option maxRecDepth 20000 in
theorem ggX2_gatherNames_X2_mention : GoodIn wsX2_gatherNames wsX2_mention := goodIn_r _ [7, 8, 9, 10, 11, 12, 13, 14, 15, 16, 17, 18, 19, 20, 21, 22, 23] rfl (by decide +kernel)
set_option maxRecDepth 20000 in
theorem gX2_gatherNames_X2_mention : GoodIn wsX2_gatherNames (wsV RX2 52 RX2 yX2_mention wsX2_mention) := goodIn_app (goodIn_of _ (by decide +kernel)) ggX2_gatherNames_X2_mention
theorem dX2_gatherNames_0 : decode cX2_gatherNames 0 = .ok (.aload_n 0, 1) := kd_r kbX2_gatherNames ki_0 rfl
theorem dX2_gatherNames_1 : decode cX2_gatherNames 1 = .ok (.iconst 0, 1) := kd_r kbX2_gatherNames ki_20 rfl
theorem dX2_gatherNames_2 : decode cX2_gatherNames 2 = .ok (.putfield 49, 3) := kd_r kbX2_gatherNames ki_92 rfl
theorem dX2_gatherNames_5 : decode cX2_gatherNames 5 = .ok (.iconst 0, 1) := kd_r kbX2_gatherNames ki_20 rfl
theorem dX2_gatherNames_6 : decode cX2_gatherNames 6 = .ok (.istore_n 1, 1) := kd_r kbX2_gatherNames ki_60 rfl
theorem dX2_gatherNames_7 : decode cX2_gatherNames 7 = .ok (.iload_n 1, 1) := kd_r kbX2_gatherNames ki_8 rfl
theorem dX2_gatherNames_8 : decode cX2_gatherNames 8 = .ok (.bipush 8, 2) := kd_r kbX2_gatherNames ki_74 rfl
theorem dX2_gatherNames_10 : decode cX2_gatherNames 10 = .ok (.if_icmp .ge 38, 3) := kd_r kbX2_gatherNames ki_93 rfl
theorem dX2_gatherNames_13 : decode cX2_gatherNames 13 = .ok (.aload_n 0, 1) := kd_r kbX2_gatherNames ki_0 rfl
theorem dX2_gatherNames_14 : decode cX2_gatherNames 14 = .ok (.getfield 21, 3) := kd_r kbX2_gatherNames ki_94 rfl
theorem dX2_gatherNames_17 : decode cX2_gatherNames 17 = .ok (.iload_n 1, 1) := kd_r kbX2_gatherNames ki_8 rfl
theorem dX2_gatherNames_18 : decode cX2_gatherNames 18 = .ok (.aload_n 0, 1) := kd_r kbX2_gatherNames ki_0 rfl
theorem dX2_gatherNames_19 : decode cX2_gatherNames 19 = .ok (.iload_n 1, 1) := kd_r kbX2_gatherNames ki_8 rfl
theorem dX2_gatherNames_20 : decode cX2_gatherNames 20 = .ok (.invokevirtual 52, 3) := kd_r kbX2_gatherNames ki_95 rfl
theorem dX2_gatherNames_23 : decode cX2_gatherNames 23 = .ok (.ifCond .eq 17, 3) := kd_r kbX2_gatherNames ki_96 rfl
theorem dX2_gatherNames_26 : decode cX2_gatherNames 26 = .ok (.aload_n 0, 1) := kd_r kbX2_gatherNames ki_0 rfl
theorem dX2_gatherNames_27 : decode cX2_gatherNames 27 = .ok (.dup, 1) := kd_r kbX2_gatherNames ki_29 rfl
theorem dX2_gatherNames_28 : decode cX2_gatherNames 28 = .ok (.getfield 49, 3) := kd_r kbX2_gatherNames ki_97 rfl
theorem dX2_gatherNames_31 : decode cX2_gatherNames 31 = .ok (.dup_x1, 1) := kd_r kbX2_gatherNames ki_98 rfl
theorem dX2_gatherNames_32 : decode cX2_gatherNames 32 = .ok (.iconst 1, 1) := kd_r kbX2_gatherNames ki_16 rfl
theorem dX2_gatherNames_33 : decode cX2_gatherNames 33 = .ok (.iadd, 1) := kd_r kbX2_gatherNames ki_30 rfl
theorem dX2_gatherNames_34 : decode cX2_gatherNames 34 = .ok (.putfield 49, 3) := kd_r kbX2_gatherNames ki_92 rfl
theorem dX2_gatherNames_37 : decode cX2_gatherNames 37 = .ok (.goto 4, 3) := kd_r kbX2_gatherNames ki_19 rfl
theorem dX2_gatherNames_40 : decode cX2_gatherNames 40 = .ok (.iconst (-1), 1) := kd_r kbX2_gatherNames ki_99 rfl
theorem dX2_gatherNames_41 : decode cX2_gatherNames 41 = .ok (.iastore, 1) := kd_r kbX2_gatherNames ki_28 rfl
theorem dX2_gatherNames_42 : decode cX2_gatherNames 42 = .ok (.iinc 1 1, 3) := kd_r kbX2_gatherNames ki_62 rfl
theorem dX2_gatherNames_45 : decode cX2_gatherNames 45 = .ok (.goto (-38), 3) := kd_r kbX2_gatherNames ki_100 rfl
theorem dX2_gatherNames_48 : decode cX2_gatherNames 48 = .ok (.aload_n 0, 1) := kd_r kbX2_gatherNames ki_0 rfl
theorem dX2_gatherNames_49 : decode cX2_gatherNames 49 = .ok (.getfield 49, 3) := kd_r kbX2_gatherNames ki_97 rfl
theorem dX2_gatherNames_52 : decode cX2_gatherNames 52 = .ok (.ireturn, 1) := kd_r kbX2_gatherNames ki_7 rfl
set_option maxRecDepth 20000 in
theorem ggX2_putTogether_X9_size : GoodIn wsX2_putTogether wsX9_size := goodIn_r _ [16, 17, 98, 99, 100, 101] rfl (by decide +kernel)
set_option maxRecDepth 20000 in
theorem gX2_putTogether_X9_size : GoodIn wsX2_putTogether (wsV RX2 56 RX9 yX9_size wsX9_size) := goodIn_app (goodIn_of _ (by decide +kernel)) ggX2_putTogether_X9_size
set_option maxRecDepth 20000 in
theorem ggX2_putTogether_X2_openAll : GoodIn wsX2_putTogether wsX2_openAll := goodIn_r _ [22, 5, 23, 24, 25, 26, 27, 28, 29, 15, 30, 17, 31, 85, 86, 87, 88, 89, 90, 91, 92, 93, 94, 95, 96, 97, 98, 99, 100, 101] rfl (by decide +kernel)
set_option maxRecDepth 20000 in
theorem gX2_putTogether_X2_openAll : GoodIn wsX2_putTogether (wsV RX2 73 RX2 yX2_openAll wsX2_openAll) := goodIn_app (goodIn_of _ (by decide +kernel)) ggX2_putTogether_X2_openAll
set_option maxRecDepth 20000 in
theorem ggX2_putTogether_X2_seat : GoodIn wsX2_putTogether wsX2_seat := goodIn_r _ [35, 36, 37, 38, 21, 39, 85, 86, 87, 88, 89, 90, 91, 92, 93, 94, 95, 96, 97] rfl (by decide +kernel)
set_option maxRecDepth 20000 in
theorem gX2_putTogether_X2_seat : GoodIn wsX2_putTogether (wsV RX2 77 RX2 yX2_seat wsX2_seat) := goodIn_app (goodIn_of _ (by decide +kernel)) ggX2_putTogether_X2_seat
set_option maxRecDepth 20000 in
theorem ggX2_putTogether_X2_keepPlace : GoodIn wsX2_putTogether wsX2_keepPlace := goodIn_r _ [43, 26, 85, 86, 87, 88, 89, 90, 91, 92, 93, 94, 95, 96, 97] rfl (by decide +kernel)
set_option maxRecDepth 20000 in
theorem gX2_putTogether_X2_keepPlace : GoodIn wsX2_putTogether (wsV RX2 81 RX2 yX2_keepPlace wsX2_keepPlace) := goodIn_app (goodIn_of _ (by decide +kernel)) ggX2_putTogether_X2_keepPlace
set_option maxRecDepth 20000 in
theorem ggX2_putTogether_X2_keepDistance : GoodIn wsX2_putTogether wsX2_keepDistance := goodIn_r _ [47, 24, 5, 23, 48, 49, 3, 50, 25, 85, 86, 87, 88, 89, 90, 91, 92, 93, 94, 95, 96, 97] rfl (by decide +kernel)
set_option maxRecDepth 20000 in
theorem gX2_putTogether_X2_keepDistance : GoodIn wsX2_putTogether (wsV RX2 85 RX2 yX2_keepDistance wsX2_keepDistance) := goodIn_app (goodIn_of _ (by decide +kernel)) ggX2_putTogether_X2_keepDistance
set_option maxRecDepth 20000 in
theorem ggX2_putTogether_X2_search : GoodIn wsX2_putTogether wsX2_search := goodIn_r _ [54, 7, 5, 6, 55, 26, 56, 57, 58, 59, 21, 60, 61, 62, 63, 64, 65, 1, 2, 3, 4, 66, 67, 68, 69, 70, 71, 72, 73, 74, 75, 76, 77, 78, 79, 80, 81, 82, 83, 84, 24, 51, 52, 53, 85, 86, 87, 88, 89, 90, 91, 92, 93, 94, 95, 96, 97] rfl (by decide +kernel)
set_option maxRecDepth 20000 in
theorem gX2_putTogether_X2_search : GoodIn wsX2_putTogether (wsV RX2 89 RX2 yX2_search wsX2_search) := goodIn_app (goodIn_of _ (by decide +kernel)) ggX2_putTogether_X2_search
theorem dX2_putTogether_0 : decode cX2_putTogether 0 = .ok (.aload_n 0, 1) := kd_r kbX2_putTogether ki_0 rfl
theorem dX2_putTogether_1 : decode cX2_putTogether 1 = .ok (.aload_n 1, 1) := kd_r kbX2_putTogether ki_69 rfl
theorem dX2_putTogether_2 : decode cX2_putTogether 2 = .ok (.invokevirtual 56, 3) := kd_r kbX2_putTogether ki_101 rfl
theorem dX2_putTogether_5 : decode cX2_putTogether 5 = .ok (.bipush 40, 2) := kd_r kbX2_putTogether ki_44 rfl
theorem dX2_putTogether_7 : decode cX2_putTogether 7 = .ok (.invokestatic 61, 3) := kd_r kbX2_putTogether ki_102 rfl
theorem dX2_putTogether_10 : decode cX2_putTogether 10 = .ok (.putfield 67, 3) := kd_r kbX2_putTogether ki_103 rfl
theorem dX2_putTogether_13 : decode cX2_putTogether 13 = .ok (.aload_n 0, 1) := kd_r kbX2_putTogether ki_0 rfl
theorem dX2_putTogether_14 : decode cX2_putTogether 14 = .ok (.iconst 0, 1) := kd_r kbX2_putTogether ki_20 rfl
theorem dX2_putTogether_15 : decode cX2_putTogether 15 = .ok (.putfield 70, 3) := kd_r kbX2_putTogether ki_104 rfl
theorem dX2_putTogether_18 : decode cX2_putTogether 18 = .ok (.aload_n 0, 1) := kd_r kbX2_putTogether ki_0 rfl
theorem dX2_putTogether_19 : decode cX2_putTogether 19 = .ok (.getfield 49, 3) := kd_r kbX2_putTogether ki_97 rfl
theorem dX2_putTogether_22 : decode cX2_putTogether 22 = .ok (.iconst 1, 1) := kd_r kbX2_putTogether ki_16 rfl
theorem dX2_putTogether_23 : decode cX2_putTogether 23 = .ok (.if_icmp .lt 11, 3) := kd_r kbX2_putTogether ki_105 rfl
theorem dX2_putTogether_26 : decode cX2_putTogether 26 = .ok (.aload_n 0, 1) := kd_r kbX2_putTogether ki_0 rfl
theorem dX2_putTogether_27 : decode cX2_putTogether 27 = .ok (.getfield 49, 3) := kd_r kbX2_putTogether ki_97 rfl
theorem dX2_putTogether_30 : decode cX2_putTogether 30 = .ok (.iconst 5, 1) := kd_r kbX2_putTogether ki_79 rfl
theorem dX2_putTogether_31 : decode cX2_putTogether 31 = .ok (.if_icmp .le 5, 3) := kd_r kbX2_putTogether ki_106 rfl
theorem dX2_putTogether_34 : decode cX2_putTogether 34 = .ok (.iconst 0, 1) := kd_r kbX2_putTogether ki_20 rfl
theorem dX2_putTogether_35 : decode cX2_putTogether 35 = .ok (.ireturn, 1) := kd_r kbX2_putTogether ki_7 rfl
theorem dX2_putTogether_36 : decode cX2_putTogether 36 = .ok (.aload_n 0, 1) := kd_r kbX2_putTogether ki_0 rfl
theorem dX2_putTogether_37 : decode cX2_putTogether 37 = .ok (.aload_n 1, 1) := kd_r kbX2_putTogether ki_69 rfl
theorem dX2_putTogether_38 : decode cX2_putTogether 38 = .ok (.invokevirtual 73, 3) := kd_r kbX2_putTogether ki_107 rfl
theorem dX2_putTogether_41 : decode cX2_putTogether 41 = .ok (.iconst 0, 1) := kd_r kbX2_putTogether ki_20 rfl
theorem dX2_putTogether_42 : decode cX2_putTogether 42 = .ok (.istore_n 3, 1) := kd_r kbX2_putTogether ki_108 rfl
theorem dX2_putTogether_43 : decode cX2_putTogether 43 = .ok (.iload_n 3, 1) := kd_r kbX2_putTogether ki_55 rfl
theorem dX2_putTogether_44 : decode cX2_putTogether 44 = .ok (.aload_n 0, 1) := kd_r kbX2_putTogether ki_0 rfl
theorem dX2_putTogether_45 : decode cX2_putTogether 45 = .ok (.getfield 41, 3) := kd_r kbX2_putTogether ki_83 rfl
theorem dX2_putTogether_48 : decode cX2_putTogether 48 = .ok (.if_icmp .ge 79, 3) := kd_r kbX2_putTogether ki_109 rfl
theorem dX2_putTogether_51 : decode cX2_putTogether 51 = .ok (.aload_n 0, 1) := kd_r kbX2_putTogether ki_0 rfl
theorem dX2_putTogether_52 : decode cX2_putTogether 52 = .ok (.getfield 15, 3) := kd_r kbX2_putTogether ki_6 rfl
theorem dX2_putTogether_55 : decode cX2_putTogether 55 = .ok (.iload_n 3, 1) := kd_r kbX2_putTogether ki_55 rfl
theorem dX2_putTogether_56 : decode cX2_putTogether 56 = .ok (.iaload, 1) := kd_r kbX2_putTogether ki_14 rfl
theorem dX2_putTogether_57 : decode cX2_putTogether 57 = .ok (.iconst (-1), 1) := kd_r kbX2_putTogether ki_99 rfl
theorem dX2_putTogether_58 : decode cX2_putTogether 58 = .ok (.if_icmp .ne 26, 3) := kd_r kbX2_putTogether ki_110 rfl
theorem dX2_putTogether_61 : decode cX2_putTogether 61 = .ok (.aload_n 0, 1) := kd_r kbX2_putTogether ki_0 rfl
theorem dX2_putTogether_62 : decode cX2_putTogether 62 = .ok (.aload_n 0, 1) := kd_r kbX2_putTogether ki_0 rfl
theorem dX2_putTogether_63 : decode cX2_putTogether 63 = .ok (.aload_n 0, 1) := kd_r kbX2_putTogether ki_0 rfl
theorem dX2_putTogether_64 : decode cX2_putTogether 64 = .ok (.getfield 11, 3) := kd_r kbX2_putTogether ki_86 rfl
theorem dX2_putTogether_67 : decode cX2_putTogether 67 = .ok (.iload_n 3, 1) := kd_r kbX2_putTogether ki_55 rfl
theorem dX2_putTogether_68 : decode cX2_putTogether 68 = .ok (.iaload, 1) := kd_r kbX2_putTogether ki_14 rfl
theorem dX2_putTogether_69 : decode cX2_putTogether 69 = .ok (.invokevirtual 77, 3) := kd_r kbX2_putTogether ki_111 rfl
theorem dX2_putTogether_72 : decode cX2_putTogether 72 = .ok (.aload_n 0, 1) := kd_r kbX2_putTogether ki_0 rfl
theorem dX2_putTogether_73 : decode cX2_putTogether 73 = .ok (.getfield 18, 3) := kd_r kbX2_putTogether ki_87 rfl
theorem dX2_putTogether_76 : decode cX2_putTogether 76 = .ok (.iload_n 3, 1) := kd_r kbX2_putTogether ki_55 rfl
theorem dX2_putTogether_77 : decode cX2_putTogether 77 = .ok (.iaload, 1) := kd_r kbX2_putTogether ki_14 rfl
theorem dX2_putTogether_78 : decode cX2_putTogether 78 = .ok (.invokevirtual 81, 3) := kd_r kbX2_putTogether ki_112 rfl
theorem dX2_putTogether_81 : decode cX2_putTogether 81 = .ok (.goto 40, 3) := kd_r kbX2_putTogether ki_113 rfl
theorem dX2_putTogether_84 : decode cX2_putTogether 84 = .ok (.aload_n 0, 1) := kd_r kbX2_putTogether ki_0 rfl
theorem dX2_putTogether_85 : decode cX2_putTogether 85 = .ok (.aload_n 0, 1) := kd_r kbX2_putTogether ki_0 rfl
theorem dX2_putTogether_86 : decode cX2_putTogether 86 = .ok (.aload_n 0, 1) := kd_r kbX2_putTogether ki_0 rfl
theorem dX2_putTogether_87 : decode cX2_putTogether 87 = .ok (.getfield 11, 3) := kd_r kbX2_putTogether ki_86 rfl
theorem dX2_putTogether_90 : decode cX2_putTogether 90 = .ok (.iload_n 3, 1) := kd_r kbX2_putTogether ki_55 rfl
theorem dX2_putTogether_91 : decode cX2_putTogether 91 = .ok (.iaload, 1) := kd_r kbX2_putTogether ki_14 rfl
theorem dX2_putTogether_92 : decode cX2_putTogether 92 = .ok (.invokevirtual 77, 3) := kd_r kbX2_putTogether ki_111 rfl
theorem dX2_putTogether_95 : decode cX2_putTogether 95 = .ok (.aload_n 0, 1) := kd_r kbX2_putTogether ki_0 rfl
theorem dX2_putTogether_96 : decode cX2_putTogether 96 = .ok (.aload_n 0, 1) := kd_r kbX2_putTogether ki_0 rfl
theorem dX2_putTogether_97 : decode cX2_putTogether 97 = .ok (.getfield 15, 3) := kd_r kbX2_putTogether ki_6 rfl
theorem dX2_putTogether_100 : decode cX2_putTogether 100 = .ok (.iload_n 3, 1) := kd_r kbX2_putTogether ki_55 rfl
theorem dX2_putTogether_101 : decode cX2_putTogether 101 = .ok (.iaload, 1) := kd_r kbX2_putTogether ki_14 rfl
theorem dX2_putTogether_102 : decode cX2_putTogether 102 = .ok (.invokevirtual 77, 3) := kd_r kbX2_putTogether ki_111 rfl
theorem dX2_putTogether_105 : decode cX2_putTogether 105 = .ok (.bipush 10, 2) := kd_r kbX2_putTogether ki_71 rfl
theorem dX2_putTogether_107 : decode cX2_putTogether 107 = .ok (.aload_n 0, 1) := kd_r kbX2_putTogether ki_0 rfl
theorem dX2_putTogether_108 : decode cX2_putTogether 108 = .ok (.getfield 18, 3) := kd_r kbX2_putTogether ki_87 rfl
theorem dX2_putTogether_111 : decode cX2_putTogether 111 = .ok (.iload_n 3, 1) := kd_r kbX2_putTogether ki_55 rfl
theorem dX2_putTogether_112 : decode cX2_putTogether 112 = .ok (.iaload, 1) := kd_r kbX2_putTogether ki_14 rfl
theorem dX2_putTogether_113 : decode cX2_putTogether 113 = .ok (.imul, 1) := kd_r kbX2_putTogether ki_114 rfl
theorem dX2_putTogether_114 : decode cX2_putTogether 114 = .ok (.bipush 10, 2) := kd_r kbX2_putTogether ki_71 rfl
theorem dX2_putTogether_116 : decode cX2_putTogether 116 = .ok (.iload_n 2, 1) := kd_r kbX2_putTogether ki_11 rfl
theorem dX2_putTogether_117 : decode cX2_putTogether 117 = .ok (.imul, 1) := kd_r kbX2_putTogether ki_114 rfl
theorem dX2_putTogether_118 : decode cX2_putTogether 118 = .ok (.invokevirtual 85, 3) := kd_r kbX2_putTogether ki_115 rfl
theorem dX2_putTogether_121 : decode cX2_putTogether 121 = .ok (.iinc 3 1, 3) := kd_r kbX2_putTogether ki_116 rfl
theorem dX2_putTogether_124 : decode cX2_putTogether 124 = .ok (.goto (-81), 3) := kd_r kbX2_putTogether ki_117 rfl
theorem dX2_putTogether_127 : decode cX2_putTogether 127 = .ok (.aload_n 0, 1) := kd_r kbX2_putTogether ki_0 rfl
theorem dX2_putTogether_128 : decode cX2_putTogether 128 = .ok (.iconst 0, 1) := kd_r kbX2_putTogether ki_20 rfl
theorem dX2_putTogether_129 : decode cX2_putTogether 129 = .ok (.invokevirtual 89, 3) := kd_r kbX2_putTogether ki_118 rfl
theorem dX2_putTogether_132 : decode cX2_putTogether 132 = .ok (.aload_n 0, 1) := kd_r kbX2_putTogether ki_0 rfl
theorem dX2_putTogether_133 : decode cX2_putTogether 133 = .ok (.getfield 70, 3) := kd_r kbX2_putTogether ki_119 rfl
theorem dX2_putTogether_136 : decode cX2_putTogether 136 = .ok (.ireturn, 1) := kd_r kbX2_putTogether ki_7 rfl
set_option maxRecDepth 20000 in
theorem ggX2_foundPlot_X2_seat : GoodIn wsX2_foundPlot wsX2_seat := goodIn_r _ [6, 7, 8, 9, 5, 10, 11, 12, 13, 14, 15, 16, 17, 18, 19, 20, 21, 22, 23] rfl (by decide +kernel)
set_option maxRecDepth 20000 in
theorem gX2_foundPlot_X2_seat : GoodIn wsX2_foundPlot (wsV RX2 77 RX2 yX2_seat wsX2_seat) := goodIn_app (goodIn_of _ (by decide +kernel)) ggX2_foundPlot_X2_seat
theorem dX2_foundPlot_0 : decode cX2_foundPlot 0 = .ok (.aload_n 0, 1) := kd_r kbX2_foundPlot ki_0 rfl
theorem dX2_foundPlot_1 : decode cX2_foundPlot 1 = .ok (.getfield 38, 3) := kd_r kbX2_foundPlot ki_120 rfl
theorem dX2_foundPlot_4 : decode cX2_foundPlot 4 = .ok (.aload_n 0, 1) := kd_r kbX2_foundPlot ki_0 rfl
theorem dX2_foundPlot_5 : decode cX2_foundPlot 5 = .ok (.iload_n 1, 1) := kd_r kbX2_foundPlot ki_8 rfl
theorem dX2_foundPlot_6 : decode cX2_foundPlot 6 = .ok (.invokevirtual 77, 3) := kd_r kbX2_foundPlot ki_111 rfl
theorem dX2_foundPlot_9 : decode cX2_foundPlot 9 = .ok (.iaload, 1) := kd_r kbX2_foundPlot ki_14 rfl
theorem dX2_foundPlot_10 : decode cX2_foundPlot 10 = .ok (.ireturn, 1) := kd_r kbX2_foundPlot ki_7 rfl
set_option maxRecDepth 20000 in
theorem ggX2_seat_X2_isName : GoodIn wsX2_seat wsX2_isName := goodIn_r _ [5] rfl (by decide +kernel)
set_option maxRecDepth 20000 in
theorem gX2_seat_X2_isName : GoodIn wsX2_seat (va_wsS RX2 93 yX2_isName wsX2_isName) := goodIn_app (goodIn_of _ (by decide +kernel)) ggX2_seat_X2_isName
theorem dX2_seat_0 : decode cX2_seat 0 = .ok (.iload_n 1, 1) := kd_r kbX2_seat ki_8 rfl
theorem dX2_seat_1 : decode cX2_seat 1 = .ok (.invokestatic 93, 3) := kd_r kbX2_seat ki_121 rfl
theorem dX2_seat_4 : decode cX2_seat 4 = .ok (.ifCond .eq 12, 3) := kd_r kbX2_seat ki_122 rfl
theorem dX2_seat_7 : decode cX2_seat 7 = .ok (.aload_n 0, 1) := kd_r kbX2_seat ki_0 rfl
theorem dX2_seat_8 : decode cX2_seat 8 = .ok (.getfield 21, 3) := kd_r kbX2_seat ki_94 rfl
theorem dX2_seat_11 : decode cX2_seat 11 = .ok (.iload_n 1, 1) := kd_r kbX2_seat ki_8 rfl
theorem dX2_seat_12 : decode cX2_seat 12 = .ok (.iaload, 1) := kd_r kbX2_seat ki_14 rfl
theorem dX2_seat_13 : decode cX2_seat 13 = .ok (.goto 4, 3) := kd_r kbX2_seat ki_19 rfl
theorem dX2_seat_16 : decode cX2_seat 16 = .ok (.iconst 0, 1) := kd_r kbX2_seat ki_20 rfl
theorem dX2_seat_17 : decode cX2_seat 17 = .ok (.istore_n 2, 1) := kd_r kbX2_seat ki_32 rfl
theorem dX2_seat_18 : decode cX2_seat 18 = .ok (.iload_n 2, 1) := kd_r kbX2_seat ki_11 rfl
theorem dX2_seat_19 : decode cX2_seat 19 = .ok (.ifCond .lt 12, 3) := kd_r kbX2_seat ki_123 rfl
theorem dX2_seat_22 : decode cX2_seat 22 = .ok (.iload_n 2, 1) := kd_r kbX2_seat ki_11 rfl
theorem dX2_seat_23 : decode cX2_seat 23 = .ok (.iconst 5, 1) := kd_r kbX2_seat ki_79 rfl
theorem dX2_seat_24 : decode cX2_seat 24 = .ok (.if_icmp .ge 7, 3) := kd_r kbX2_seat ki_42 rfl
theorem dX2_seat_27 : decode cX2_seat 27 = .ok (.iload_n 2, 1) := kd_r kbX2_seat ki_11 rfl
theorem dX2_seat_28 : decode cX2_seat 28 = .ok (.goto 4, 3) := kd_r kbX2_seat ki_19 rfl
theorem dX2_seat_31 : decode cX2_seat 31 = .ok (.iconst 0, 1) := kd_r kbX2_seat ki_20 rfl
theorem dX2_seat_32 : decode cX2_seat 32 = .ok (.ireturn, 1) := kd_r kbX2_seat ki_7 rfl
set_option maxRecDepth 20000 in
theorem ggX2_openAll_X9_begin : GoodIn wsX2_openAll wsX9_begin := goodIn_r _ [10, 11, 12, 26, 27, 28, 29] rfl (by decide +kernel)
set_option maxRecDepth 20000 in
theorem gX2_openAll_X9_begin : GoodIn wsX2_openAll (wsV RX2 96 RX9 yX9_begin wsX9_begin) := goodIn_app (goodIn_of _ (by decide +kernel)) ggX2_openAll_X9_begin
theorem dX2_openAll_0 : decode cX2_openAll 0 = .ok (.lconst 1, 1) := kd_r kbX2_openAll ki_124 rfl
theorem dX2_openAll_1 : decode cX2_openAll 1 = .ok (.aload_n 0, 1) := kd_r kbX2_openAll ki_0 rfl
theorem dX2_openAll_2 : decode cX2_openAll 2 = .ok (.getfield 67, 3) := kd_r kbX2_openAll ki_125 rfl
theorem dX2_openAll_5 : decode cX2_openAll 5 = .ok (.lshl, 1) := kd_r kbX2_openAll ki_126 rfl
theorem dX2_openAll_6 : decode cX2_openAll 6 = .ok (.lconst 1, 1) := kd_r kbX2_openAll ki_124 rfl
theorem dX2_openAll_7 : decode cX2_openAll 7 = .ok (.lsub, 1) := kd_r kbX2_openAll ki_127 rfl
theorem dX2_openAll_8 : decode cX2_openAll 8 = .ok (.lstore_n 2, 1) := kd_r kbX2_openAll ki_128 rfl
theorem dX2_openAll_9 : decode cX2_openAll 9 = .ok (.iconst 0, 1) := kd_r kbX2_openAll ki_20 rfl
theorem dX2_openAll_10 : decode cX2_openAll 10 = .ok (.istore 4, 2) := kd_r kbX2_openAll ki_129 rfl
theorem dX2_openAll_12 : decode cX2_openAll 12 = .ok (.iload 4, 2) := kd_r kbX2_openAll ki_57 rfl
theorem dX2_openAll_14 : decode cX2_openAll 14 = .ok (.aload_n 0, 1) := kd_r kbX2_openAll ki_0 rfl
theorem dX2_openAll_15 : decode cX2_openAll 15 = .ok (.getfield 67, 3) := kd_r kbX2_openAll ki_125 rfl
theorem dX2_openAll_18 : decode cX2_openAll 18 = .ok (.if_icmp .ge 61, 3) := kd_r kbX2_openAll ki_130 rfl
theorem dX2_openAll_21 : decode cX2_openAll 21 = .ok (.aload_n 0, 1) := kd_r kbX2_openAll ki_0 rfl
theorem dX2_openAll_22 : decode cX2_openAll 22 = .ok (.getfield 24, 3) := kd_r kbX2_openAll ki_131 rfl
theorem dX2_openAll_25 : decode cX2_openAll 25 = .ok (.iload 4, 2) := kd_r kbX2_openAll ki_57 rfl
theorem dX2_openAll_27 : decode cX2_openAll 27 = .ok (.aload_n 1, 1) := kd_r kbX2_openAll ki_69 rfl
theorem dX2_openAll_28 : decode cX2_openAll 28 = .ok (.iload 4, 2) := kd_r kbX2_openAll ki_57 rfl
theorem dX2_openAll_30 : decode cX2_openAll 30 = .ok (.invokevirtual 96, 3) := kd_r kbX2_openAll ki_132 rfl
theorem dX2_openAll_33 : decode cX2_openAll 33 = .ok (.iastore, 1) := kd_r kbX2_openAll ki_28 rfl
theorem dX2_openAll_34 : decode cX2_openAll 34 = .ok (.iconst 0, 1) := kd_r kbX2_openAll ki_20 rfl
theorem dX2_openAll_35 : decode cX2_openAll 35 = .ok (.istore 5, 2) := kd_r kbX2_openAll ki_133 rfl
theorem dX2_openAll_37 : decode cX2_openAll 37 = .ok (.iload 5, 2) := kd_r kbX2_openAll ki_134 rfl
theorem dX2_openAll_39 : decode cX2_openAll 39 = .ok (.aload_n 0, 1) := kd_r kbX2_openAll ki_0 rfl
theorem dX2_openAll_40 : decode cX2_openAll 40 = .ok (.getfield 29, 3) := kd_r kbX2_openAll ki_135 rfl
theorem dX2_openAll_43 : decode cX2_openAll 43 = .ok (.arraylength, 1) := kd_r kbX2_openAll ki_33 rfl
theorem dX2_openAll_44 : decode cX2_openAll 44 = .ok (.if_icmp .ge 29, 3) := kd_r kbX2_openAll ki_136 rfl
theorem dX2_openAll_47 : decode cX2_openAll 47 = .ok (.aload_n 0, 1) := kd_r kbX2_openAll ki_0 rfl
theorem dX2_openAll_48 : decode cX2_openAll 48 = .ok (.getfield 29, 3) := kd_r kbX2_openAll ki_135 rfl
theorem dX2_openAll_51 : decode cX2_openAll 51 = .ok (.iload 5, 2) := kd_r kbX2_openAll ki_134 rfl
theorem dX2_openAll_53 : decode cX2_openAll 53 = .ok (.aaload, 1) := kd_r kbX2_openAll ki_137 rfl
theorem dX2_openAll_54 : decode cX2_openAll 54 = .ok (.iload 4, 2) := kd_r kbX2_openAll ki_57 rfl
theorem dX2_openAll_56 : decode cX2_openAll 56 = .ok (.lload_n 2, 1) := kd_r kbX2_openAll ki_138 rfl
theorem dX2_openAll_57 : decode cX2_openAll 57 = .ok (.lconst 1, 1) := kd_r kbX2_openAll ki_124 rfl
theorem dX2_openAll_58 : decode cX2_openAll 58 = .ok (.iload 4, 2) := kd_r kbX2_openAll ki_57 rfl
theorem dX2_openAll_60 : decode cX2_openAll 60 = .ok (.lshl, 1) := kd_r kbX2_openAll ki_126 rfl
theorem dX2_openAll_61 : decode cX2_openAll 61 = .ok (.ldc2_w 99, 3) := kd_r kbX2_openAll ki_139 rfl
theorem dX2_openAll_64 : decode cX2_openAll 64 = .ok (.lxor, 1) := kd_r kbX2_openAll ki_140 rfl
theorem dX2_openAll_65 : decode cX2_openAll 65 = .ok (.land, 1) := kd_r kbX2_openAll ki_141 rfl
theorem dX2_openAll_66 : decode cX2_openAll 66 = .ok (.lastore, 1) := kd_r kbX2_openAll ki_142 rfl
theorem dX2_openAll_67 : decode cX2_openAll 67 = .ok (.iinc 5 1, 3) := kd_r kbX2_openAll ki_143 rfl
theorem dX2_openAll_70 : decode cX2_openAll 70 = .ok (.goto (-33), 3) := kd_r kbX2_openAll ki_38 rfl
theorem dX2_openAll_73 : decode cX2_openAll 73 = .ok (.iinc 4 1, 3) := kd_r kbX2_openAll ki_144 rfl
theorem dX2_openAll_76 : decode cX2_openAll 76 = .ok (.goto (-64), 3) := kd_r kbX2_openAll ki_145 rfl
theorem dX2_openAll_79 : decode cX2_openAll 79 = .ok (.iconst 0, 1) := kd_r kbX2_openAll ki_20 rfl
theorem dX2_openAll_80 : decode cX2_openAll 80 = .ok (.istore 4, 2) := kd_r kbX2_openAll ki_129 rfl
theorem dX2_openAll_82 : decode cX2_openAll 82 = .ok (.iload 4, 2) := kd_r kbX2_openAll ki_57 rfl
theorem dX2_openAll_84 : decode cX2_openAll 84 = .ok (.iconst 5, 1) := kd_r kbX2_openAll ki_79 rfl
theorem dX2_openAll_85 : decode cX2_openAll 85 = .ok (.if_icmp .ge 19, 3) := kd_r kbX2_openAll ki_146 rfl
theorem dX2_openAll_88 : decode cX2_openAll 88 = .ok (.aload_n 0, 1) := kd_r kbX2_openAll ki_0 rfl
theorem dX2_openAll_89 : decode cX2_openAll 89 = .ok (.getfield 32, 3) := kd_r kbX2_openAll ki_147 rfl
theorem dX2_openAll_92 : decode cX2_openAll 92 = .ok (.iconst 0, 1) := kd_r kbX2_openAll ki_20 rfl
theorem dX2_openAll_93 : decode cX2_openAll 93 = .ok (.aaload, 1) := kd_r kbX2_openAll ki_137 rfl
theorem dX2_openAll_94 : decode cX2_openAll 94 = .ok (.iload 4, 2) := kd_r kbX2_openAll ki_57 rfl
theorem dX2_openAll_96 : decode cX2_openAll 96 = .ok (.lload_n 2, 1) := kd_r kbX2_openAll ki_138 rfl
theorem dX2_openAll_97 : decode cX2_openAll 97 = .ok (.lastore, 1) := kd_r kbX2_openAll ki_142 rfl
theorem dX2_openAll_98 : decode cX2_openAll 98 = .ok (.iinc 4 1, 3) := kd_r kbX2_openAll ki_144 rfl
theorem dX2_openAll_101 : decode cX2_openAll 101 = .ok (.goto (-19), 3) := kd_r kbX2_openAll ki_148 rfl
theorem dX2_openAll_104 : decode cX2_openAll 104 = .ok (.return_, 1) := kd_r kbX2_openAll ki_5 rfl
theorem dX2_keepPlace_0 : decode cX2_keepPlace 0 = .ok (.aload_n 0, 1) := kd_r kbX2_keepPlace ki_0 rfl
theorem dX2_keepPlace_1 : decode cX2_keepPlace 1 = .ok (.getfield 32, 3) := kd_r kbX2_keepPlace ki_147 rfl
theorem dX2_keepPlace_4 : decode cX2_keepPlace 4 = .ok (.iconst 0, 1) := kd_r kbX2_keepPlace ki_20 rfl
theorem dX2_keepPlace_5 : decode cX2_keepPlace 5 = .ok (.aaload, 1) := kd_r kbX2_keepPlace ki_137 rfl
theorem dX2_keepPlace_6 : decode cX2_keepPlace 6 = .ok (.iload_n 1, 1) := kd_r kbX2_keepPlace ki_8 rfl
theorem dX2_keepPlace_7 : decode cX2_keepPlace 7 = .ok (.dup2, 1) := kd_r kbX2_keepPlace ki_25 rfl
theorem dX2_keepPlace_8 : decode cX2_keepPlace 8 = .ok (.laload, 1) := kd_r kbX2_keepPlace ki_149 rfl
theorem dX2_keepPlace_9 : decode cX2_keepPlace 9 = .ok (.lconst 1, 1) := kd_r kbX2_keepPlace ki_124 rfl
theorem dX2_keepPlace_10 : decode cX2_keepPlace 10 = .ok (.iload_n 2, 1) := kd_r kbX2_keepPlace ki_11 rfl
theorem dX2_keepPlace_11 : decode cX2_keepPlace 11 = .ok (.lshl, 1) := kd_r kbX2_keepPlace ki_126 rfl
theorem dX2_keepPlace_12 : decode cX2_keepPlace 12 = .ok (.land, 1) := kd_r kbX2_keepPlace ki_141 rfl
theorem dX2_keepPlace_13 : decode cX2_keepPlace 13 = .ok (.lastore, 1) := kd_r kbX2_keepPlace ki_142 rfl
theorem dX2_keepPlace_14 : decode cX2_keepPlace 14 = .ok (.return_, 1) := kd_r kbX2_keepPlace ki_5 rfl
theorem dX2_keepDistance_0 : decode cX2_keepDistance 0 = .ok (.aload_n 0, 1) := kd_r kbX2_keepDistance ki_0 rfl
theorem dX2_keepDistance_1 : decode cX2_keepDistance 1 = .ok (.getfield 29, 3) := kd_r kbX2_keepDistance ki_135 rfl
theorem dX2_keepDistance_4 : decode cX2_keepDistance 4 = .ok (.iload_n 1, 1) := kd_r kbX2_keepDistance ki_8 rfl
theorem dX2_keepDistance_5 : decode cX2_keepDistance 5 = .ok (.iconst 5, 1) := kd_r kbX2_keepDistance ki_79 rfl
theorem dX2_keepDistance_6 : decode cX2_keepDistance 6 = .ok (.imul, 1) := kd_r kbX2_keepDistance ki_114 rfl
theorem dX2_keepDistance_7 : decode cX2_keepDistance 7 = .ok (.iload_n 2, 1) := kd_r kbX2_keepDistance ki_11 rfl
theorem dX2_keepDistance_8 : decode cX2_keepDistance 8 = .ok (.iadd, 1) := kd_r kbX2_keepDistance ki_30 rfl
theorem dX2_keepDistance_9 : decode cX2_keepDistance 9 = .ok (.aaload, 1) := kd_r kbX2_keepDistance ki_137 rfl
theorem dX2_keepDistance_10 : decode cX2_keepDistance 10 = .ok (.astore 5, 2) := kd_r kbX2_keepDistance ki_150 rfl
theorem dX2_keepDistance_12 : decode cX2_keepDistance 12 = .ok (.aload_n 0, 1) := kd_r kbX2_keepDistance ki_0 rfl
theorem dX2_keepDistance_13 : decode cX2_keepDistance 13 = .ok (.getfield 29, 3) := kd_r kbX2_keepDistance ki_135 rfl
theorem dX2_keepDistance_16 : decode cX2_keepDistance 16 = .ok (.iload_n 2, 1) := kd_r kbX2_keepDistance ki_11 rfl
theorem dX2_keepDistance_17 : decode cX2_keepDistance 17 = .ok (.iconst 5, 1) := kd_r kbX2_keepDistance ki_79 rfl
theorem dX2_keepDistance_18 : decode cX2_keepDistance 18 = .ok (.imul, 1) := kd_r kbX2_keepDistance ki_114 rfl
theorem dX2_keepDistance_19 : decode cX2_keepDistance 19 = .ok (.iload_n 1, 1) := kd_r kbX2_keepDistance ki_8 rfl
theorem dX2_keepDistance_20 : decode cX2_keepDistance 20 = .ok (.iadd, 1) := kd_r kbX2_keepDistance ki_30 rfl
theorem dX2_keepDistance_21 : decode cX2_keepDistance 21 = .ok (.aaload, 1) := kd_r kbX2_keepDistance ki_137 rfl
theorem dX2_keepDistance_22 : decode cX2_keepDistance 22 = .ok (.astore 6, 2) := kd_r kbX2_keepDistance ki_151 rfl
theorem dX2_keepDistance_24 : decode cX2_keepDistance 24 = .ok (.iconst 0, 1) := kd_r kbX2_keepDistance ki_20 rfl
theorem dX2_keepDistance_25 : decode cX2_keepDistance 25 = .ok (.istore 7, 2) := kd_r kbX2_keepDistance ki_152 rfl
theorem dX2_keepDistance_27 : decode cX2_keepDistance 27 = .ok (.iload 7, 2) := kd_r kbX2_keepDistance ki_153 rfl
theorem dX2_keepDistance_29 : decode cX2_keepDistance 29 = .ok (.aload_n 0, 1) := kd_r kbX2_keepDistance ki_0 rfl
theorem dX2_keepDistance_30 : decode cX2_keepDistance 30 = .ok (.getfield 67, 3) := kd_r kbX2_keepDistance ki_125 rfl
theorem dX2_keepDistance_33 : decode cX2_keepDistance 33 = .ok (.if_icmp .ge 84, 3) := kd_r kbX2_keepDistance ki_154 rfl
theorem dX2_keepDistance_36 : decode cX2_keepDistance 36 = .ok (.iconst 0, 1) := kd_r kbX2_keepDistance ki_20 rfl
theorem dX2_keepDistance_37 : decode cX2_keepDistance 37 = .ok (.istore 8, 2) := kd_r kbX2_keepDistance ki_155 rfl
theorem dX2_keepDistance_39 : decode cX2_keepDistance 39 = .ok (.iload 8, 2) := kd_r kbX2_keepDistance ki_156 rfl
theorem dX2_keepDistance_41 : decode cX2_keepDistance 41 = .ok (.aload_n 0, 1) := kd_r kbX2_keepDistance ki_0 rfl
theorem dX2_keepDistance_42 : decode cX2_keepDistance 42 = .ok (.getfield 67, 3) := kd_r kbX2_keepDistance ki_125 rfl
theorem dX2_keepDistance_45 : decode cX2_keepDistance 45 = .ok (.if_icmp .ge 66, 3) := kd_r kbX2_keepDistance ki_157 rfl
theorem dX2_keepDistance_48 : decode cX2_keepDistance 48 = .ok (.iload_n 3, 1) := kd_r kbX2_keepDistance ki_55 rfl
theorem dX2_keepDistance_49 : decode cX2_keepDistance 49 = .ok (.aload_n 0, 1) := kd_r kbX2_keepDistance ki_0 rfl
theorem dX2_keepDistance_50 : decode cX2_keepDistance 50 = .ok (.getfield 24, 3) := kd_r kbX2_keepDistance ki_131 rfl
theorem dX2_keepDistance_53 : decode cX2_keepDistance 53 = .ok (.iload 7, 2) := kd_r kbX2_keepDistance ki_153 rfl
theorem dX2_keepDistance_55 : decode cX2_keepDistance 55 = .ok (.iaload, 1) := kd_r kbX2_keepDistance ki_14 rfl
theorem dX2_keepDistance_56 : decode cX2_keepDistance 56 = .ok (.aload_n 0, 1) := kd_r kbX2_keepDistance ki_0 rfl
theorem dX2_keepDistance_57 : decode cX2_keepDistance 57 = .ok (.getfield 24, 3) := kd_r kbX2_keepDistance ki_131 rfl
theorem dX2_keepDistance_60 : decode cX2_keepDistance 60 = .ok (.iload 8, 2) := kd_r kbX2_keepDistance ki_156 rfl
theorem dX2_keepDistance_62 : decode cX2_keepDistance 62 = .ok (.iaload, 1) := kd_r kbX2_keepDistance ki_14 rfl
theorem dX2_keepDistance_63 : decode cX2_keepDistance 63 = .ok (.isub, 1) := kd_r kbX2_keepDistance ki_50 rfl
theorem dX2_keepDistance_64 : decode cX2_keepDistance 64 = .ok (.isub, 1) := kd_r kbX2_keepDistance ki_50 rfl
theorem dX2_keepDistance_65 : decode cX2_keepDistance 65 = .ok (.invokestatic 101, 3) := kd_r kbX2_keepDistance ki_158 rfl
theorem dX2_keepDistance_68 : decode cX2_keepDistance 68 = .ok (.iload 4, 2) := kd_r kbX2_keepDistance ki_57 rfl
theorem dX2_keepDistance_70 : decode cX2_keepDistance 70 = .ok (.if_icmp .le 35, 3) := kd_r kbX2_keepDistance ki_159 rfl
theorem dX2_keepDistance_73 : decode cX2_keepDistance 73 = .ok (.aload 5, 2) := kd_r kbX2_keepDistance ki_160 rfl
theorem dX2_keepDistance_75 : decode cX2_keepDistance 75 = .ok (.iload 7, 2) := kd_r kbX2_keepDistance ki_153 rfl
theorem dX2_keepDistance_77 : decode cX2_keepDistance 77 = .ok (.dup2, 1) := kd_r kbX2_keepDistance ki_25 rfl
theorem dX2_keepDistance_78 : decode cX2_keepDistance 78 = .ok (.laload, 1) := kd_r kbX2_keepDistance ki_149 rfl
theorem dX2_keepDistance_79 : decode cX2_keepDistance 79 = .ok (.lconst 1, 1) := kd_r kbX2_keepDistance ki_124 rfl
theorem dX2_keepDistance_80 : decode cX2_keepDistance 80 = .ok (.iload 8, 2) := kd_r kbX2_keepDistance ki_156 rfl
theorem dX2_keepDistance_82 : decode cX2_keepDistance 82 = .ok (.lshl, 1) := kd_r kbX2_keepDistance ki_126 rfl
theorem dX2_keepDistance_83 : decode cX2_keepDistance 83 = .ok (.ldc2_w 99, 3) := kd_r kbX2_keepDistance ki_139 rfl
theorem dX2_keepDistance_86 : decode cX2_keepDistance 86 = .ok (.lxor, 1) := kd_r kbX2_keepDistance ki_140 rfl
theorem dX2_keepDistance_87 : decode cX2_keepDistance 87 = .ok (.land, 1) := kd_r kbX2_keepDistance ki_141 rfl
theorem dX2_keepDistance_88 : decode cX2_keepDistance 88 = .ok (.lastore, 1) := kd_r kbX2_keepDistance ki_142 rfl
theorem dX2_keepDistance_89 : decode cX2_keepDistance 89 = .ok (.aload 6, 2) := kd_r kbX2_keepDistance ki_161 rfl
theorem dX2_keepDistance_91 : decode cX2_keepDistance 91 = .ok (.iload 8, 2) := kd_r kbX2_keepDistance ki_156 rfl
theorem dX2_keepDistance_93 : decode cX2_keepDistance 93 = .ok (.dup2, 1) := kd_r kbX2_keepDistance ki_25 rfl
theorem dX2_keepDistance_94 : decode cX2_keepDistance 94 = .ok (.laload, 1) := kd_r kbX2_keepDistance ki_149 rfl
theorem dX2_keepDistance_95 : decode cX2_keepDistance 95 = .ok (.lconst 1, 1) := kd_r kbX2_keepDistance ki_124 rfl
theorem dX2_keepDistance_96 : decode cX2_keepDistance 96 = .ok (.iload 7, 2) := kd_r kbX2_keepDistance ki_153 rfl
theorem dX2_keepDistance_98 : decode cX2_keepDistance 98 = .ok (.lshl, 1) := kd_r kbX2_keepDistance ki_126 rfl
theorem dX2_keepDistance_99 : decode cX2_keepDistance 99 = .ok (.ldc2_w 99, 3) := kd_r kbX2_keepDistance ki_139 rfl
theorem dX2_keepDistance_102 : decode cX2_keepDistance 102 = .ok (.lxor, 1) := kd_r kbX2_keepDistance ki_140 rfl
theorem dX2_keepDistance_103 : decode cX2_keepDistance 103 = .ok (.land, 1) := kd_r kbX2_keepDistance ki_141 rfl
theorem dX2_keepDistance_104 : decode cX2_keepDistance 104 = .ok (.lastore, 1) := kd_r kbX2_keepDistance ki_142 rfl
theorem dX2_keepDistance_105 : decode cX2_keepDistance 105 = .ok (.iinc 8 1, 3) := kd_r kbX2_keepDistance ki_162 rfl
theorem dX2_keepDistance_108 : decode cX2_keepDistance 108 = .ok (.goto (-69), 3) := kd_r kbX2_keepDistance ki_163 rfl
theorem dX2_keepDistance_111 : decode cX2_keepDistance 111 = .ok (.iinc 7 1, 3) := kd_r kbX2_keepDistance ki_164 rfl
theorem dX2_keepDistance_114 : decode cX2_keepDistance 114 = .ok (.goto (-87), 3) := kd_r kbX2_keepDistance ki_165 rfl
theorem dX2_keepDistance_117 : decode cX2_keepDistance 117 = .ok (.return_, 1) := kd_r kbX2_keepDistance ki_5 rfl
set_option maxRecDepth 20000 in
theorem ggX2_search_X2_countWays : GoodIn wsX2_search wsX2_countWays := goodIn_r _ [11, 5, 3, 6, 12, 13, 14, 15, 16, 4, 17, 18, 19, 20, 21, 22, 23, 24, 25, 26, 27, 28, 29, 30, 31, 32, 33, 34, 35, 44, 45, 46, 47, 48, 49, 50, 51, 52, 53, 54, 55, 56] rfl (by decide +kernel)
set_option maxRecDepth 20000 in
theorem gX2_search_X2_countWays : GoodIn wsX2_search (wsV RX2 104 RX2 yX2_countWays wsX2_countWays) := goodIn_app (goodIn_of _ (by decide +kernel)) ggX2_search_X2_countWays
set_option maxRecDepth 20000 in
theorem ggX2_search_X2_narrow : GoodIn wsX2_search wsX2_narrow := goodIn_r _ [39, 1, 5, 40, 44, 45, 46, 47, 48, 49, 50, 51, 52, 53, 54, 55, 56] rfl (by decide +kernel)
set_option maxRecDepth 20000 in
theorem gX2_search_X2_narrow : GoodIn wsX2_search (wsV RX2 108 RX2 yX2_narrow wsX2_narrow) := goodIn_app (goodIn_of _ (by decide +kernel)) ggX2_search_X2_narrow
set_option maxRecDepth 20000 in
theorem ggX2_search_X2_search : GoodIn wsX2_search wsX2_search := goodIn_r _ [0, 1, 2, 3, 4, 5, 6, 7, 8, 9, 10, 11, 12, 13, 14, 15, 16, 17, 18, 19, 20, 21, 22, 23, 24, 25, 26, 27, 28, 29, 30, 31, 32, 33, 34, 35, 36, 37, 38, 39, 40, 41, 42, 43, 44, 45, 46, 47, 48, 49, 50, 51, 52, 53, 54, 55, 56] rfl (by decide +kernel)
set_option maxRecDepth 20000 in
theorem gX2_search_X2_search : GoodIn wsX2_search (wsV RX2 89 RX2 yX2_search wsX2_search) := goodIn_app (goodIn_of _ (by decide +kernel)) ggX2_search_X2_search
theorem dX2_search_0 : decode cX2_search 0 = .ok (.iload_n 1, 1) := kd_r kbX2_search ki_8 rfl
theorem dX2_search_1 : decode cX2_search 1 = .ok (.aload_n 0, 1) := kd_r kbX2_search ki_0 rfl
theorem dX2_search_2 : decode cX2_search 2 = .ok (.getfield 49, 3) := kd_r kbX2_search ki_97 rfl
theorem dX2_search_5 : decode cX2_search 5 = .ok (.iconst 1, 1) := kd_r kbX2_search ki_16 rfl
theorem dX2_search_6 : decode cX2_search 6 = .ok (.isub, 1) := kd_r kbX2_search ki_50 rfl
theorem dX2_search_7 : decode cX2_search 7 = .ok (.if_icmp .lt 9, 3) := kd_r kbX2_search ki_166 rfl
theorem dX2_search_10 : decode cX2_search 10 = .ok (.aload_n 0, 1) := kd_r kbX2_search ki_0 rfl
theorem dX2_search_11 : decode cX2_search 11 = .ok (.iload_n 1, 1) := kd_r kbX2_search ki_8 rfl
theorem dX2_search_12 : decode cX2_search 12 = .ok (.invokevirtual 104, 3) := kd_r kbX2_search ki_167 rfl
theorem dX2_search_15 : decode cX2_search 15 = .ok (.return_, 1) := kd_r kbX2_search ki_5 rfl
theorem dX2_search_16 : decode cX2_search 16 = .ok (.iconst 0, 1) := kd_r kbX2_search ki_20 rfl
theorem dX2_search_17 : decode cX2_search 17 = .ok (.istore_n 2, 1) := kd_r kbX2_search ki_32 rfl
theorem dX2_search_18 : decode cX2_search 18 = .ok (.iload_n 2, 1) := kd_r kbX2_search ki_11 rfl
theorem dX2_search_19 : decode cX2_search 19 = .ok (.aload_n 0, 1) := kd_r kbX2_search ki_0 rfl
theorem dX2_search_20 : decode cX2_search 20 = .ok (.getfield 67, 3) := kd_r kbX2_search ki_125 rfl
theorem dX2_search_23 : decode cX2_search 23 = .ok (.if_icmp .ge 58, 3) := kd_r kbX2_search ki_168 rfl
theorem dX2_search_26 : decode cX2_search 26 = .ok (.aload_n 0, 1) := kd_r kbX2_search ki_0 rfl
theorem dX2_search_27 : decode cX2_search 27 = .ok (.getfield 70, 3) := kd_r kbX2_search ki_119 rfl
theorem dX2_search_30 : decode cX2_search 30 = .ok (.ldc 107, 2) := kd_r kbX2_search ki_169 rfl
theorem dX2_search_32 : decode cX2_search 32 = .ok (.if_icmp .ge 49, 3) := kd_r kbX2_search ki_170 rfl
theorem dX2_search_35 : decode cX2_search 35 = .ok (.aload_n 0, 1) := kd_r kbX2_search ki_0 rfl
theorem dX2_search_36 : decode cX2_search 36 = .ok (.getfield 32, 3) := kd_r kbX2_search ki_147 rfl
theorem dX2_search_39 : decode cX2_search 39 = .ok (.iload_n 1, 1) := kd_r kbX2_search ki_8 rfl
theorem dX2_search_40 : decode cX2_search 40 = .ok (.aaload, 1) := kd_r kbX2_search ki_137 rfl
theorem dX2_search_41 : decode cX2_search 41 = .ok (.iload_n 1, 1) := kd_r kbX2_search ki_8 rfl
theorem dX2_search_42 : decode cX2_search 42 = .ok (.laload, 1) := kd_r kbX2_search ki_149 rfl
theorem dX2_search_43 : decode cX2_search 43 = .ok (.iload_n 2, 1) := kd_r kbX2_search ki_11 rfl
theorem dX2_search_44 : decode cX2_search 44 = .ok (.lushr, 1) := kd_r kbX2_search ki_171 rfl
theorem dX2_search_45 : decode cX2_search 45 = .ok (.lconst 1, 1) := kd_r kbX2_search ki_124 rfl
theorem dX2_search_46 : decode cX2_search 46 = .ok (.land, 1) := kd_r kbX2_search ki_141 rfl
theorem dX2_search_47 : decode cX2_search 47 = .ok (.lconst 0, 1) := kd_r kbX2_search ki_172 rfl
theorem dX2_search_48 : decode cX2_search 48 = .ok (.lcmp, 1) := kd_r kbX2_search ki_173 rfl
theorem dX2_search_49 : decode cX2_search 49 = .ok (.ifCond .eq 26, 3) := kd_r kbX2_search ki_174 rfl
theorem dX2_search_52 : decode cX2_search 52 = .ok (.aload_n 0, 1) := kd_r kbX2_search ki_0 rfl
theorem dX2_search_53 : decode cX2_search 53 = .ok (.iload_n 1, 1) := kd_r kbX2_search ki_8 rfl
theorem dX2_search_54 : decode cX2_search 54 = .ok (.iload_n 2, 1) := kd_r kbX2_search ki_11 rfl
theorem dX2_search_55 : decode cX2_search 55 = .ok (.invokevirtual 108, 3) := kd_r kbX2_search ki_175 rfl
theorem dX2_search_58 : decode cX2_search 58 = .ok (.ifCond .eq 17, 3) := kd_r kbX2_search ki_96 rfl
theorem dX2_search_61 : decode cX2_search 61 = .ok (.aload_n 0, 1) := kd_r kbX2_search ki_0 rfl
theorem dX2_search_62 : decode cX2_search 62 = .ok (.getfield 35, 3) := kd_r kbX2_search ki_176 rfl
theorem dX2_search_65 : decode cX2_search 65 = .ok (.iload_n 1, 1) := kd_r kbX2_search ki_8 rfl
theorem dX2_search_66 : decode cX2_search 66 = .ok (.iload_n 2, 1) := kd_r kbX2_search ki_11 rfl
theorem dX2_search_67 : decode cX2_search 67 = .ok (.iastore, 1) := kd_r kbX2_search ki_28 rfl
theorem dX2_search_68 : decode cX2_search 68 = .ok (.aload_n 0, 1) := kd_r kbX2_search ki_0 rfl
theorem dX2_search_69 : decode cX2_search 69 = .ok (.iload_n 1, 1) := kd_r kbX2_search ki_8 rfl
theorem dX2_search_70 : decode cX2_search 70 = .ok (.iconst 1, 1) := kd_r kbX2_search ki_16 rfl
theorem dX2_search_71 : decode cX2_search 71 = .ok (.iadd, 1) := kd_r kbX2_search ki_30 rfl
theorem dX2_search_72 : decode cX2_search 72 = .ok (.invokevirtual 89, 3) := kd_r kbX2_search ki_118 rfl
theorem dX2_search_75 : decode cX2_search 75 = .ok (.iinc 2 1, 3) := kd_r kbX2_search ki_37 rfl
theorem dX2_search_78 : decode cX2_search 78 = .ok (.goto (-60), 3) := kd_r kbX2_search ki_177 rfl
theorem dX2_search_81 : decode cX2_search 81 = .ok (.return_, 1) := kd_r kbX2_search ki_5 rfl
theorem dX2_narrow_0 : decode cX2_narrow 0 = .ok (.iload_n 1, 1) := kd_r kbX2_narrow ki_8 rfl
theorem dX2_narrow_1 : decode cX2_narrow 1 = .ok (.iconst 1, 1) := kd_r kbX2_narrow ki_16 rfl
theorem dX2_narrow_2 : decode cX2_narrow 2 = .ok (.iadd, 1) := kd_r kbX2_narrow ki_30 rfl
theorem dX2_narrow_3 : decode cX2_narrow 3 = .ok (.istore_n 3, 1) := kd_r kbX2_narrow ki_108 rfl
theorem dX2_narrow_4 : decode cX2_narrow 4 = .ok (.iload_n 3, 1) := kd_r kbX2_narrow ki_55 rfl
theorem dX2_narrow_5 : decode cX2_narrow 5 = .ok (.aload_n 0, 1) := kd_r kbX2_narrow ki_0 rfl
theorem dX2_narrow_6 : decode cX2_narrow 6 = .ok (.getfield 49, 3) := kd_r kbX2_narrow ki_97 rfl
theorem dX2_narrow_9 : decode cX2_narrow 9 = .ok (.if_icmp .ge 53, 3) := kd_r kbX2_narrow ki_178 rfl
theorem dX2_narrow_12 : decode cX2_narrow 12 = .ok (.aload_n 0, 1) := kd_r kbX2_narrow ki_0 rfl
theorem dX2_narrow_13 : decode cX2_narrow 13 = .ok (.getfield 32, 3) := kd_r kbX2_narrow ki_147 rfl
theorem dX2_narrow_16 : decode cX2_narrow 16 = .ok (.iload_n 1, 1) := kd_r kbX2_narrow ki_8 rfl
theorem dX2_narrow_17 : decode cX2_narrow 17 = .ok (.aaload, 1) := kd_r kbX2_narrow ki_137 rfl
theorem dX2_narrow_18 : decode cX2_narrow 18 = .ok (.iload_n 3, 1) := kd_r kbX2_narrow ki_55 rfl
theorem dX2_narrow_19 : decode cX2_narrow 19 = .ok (.laload, 1) := kd_r kbX2_narrow ki_149 rfl
theorem dX2_narrow_20 : decode cX2_narrow 20 = .ok (.aload_n 0, 1) := kd_r kbX2_narrow ki_0 rfl
theorem dX2_narrow_21 : decode cX2_narrow 21 = .ok (.getfield 29, 3) := kd_r kbX2_narrow ki_135 rfl
theorem dX2_narrow_24 : decode cX2_narrow 24 = .ok (.iload_n 1, 1) := kd_r kbX2_narrow ki_8 rfl
theorem dX2_narrow_25 : decode cX2_narrow 25 = .ok (.iconst 5, 1) := kd_r kbX2_narrow ki_79 rfl
theorem dX2_narrow_26 : decode cX2_narrow 26 = .ok (.imul, 1) := kd_r kbX2_narrow ki_114 rfl
theorem dX2_narrow_27 : decode cX2_narrow 27 = .ok (.iload_n 3, 1) := kd_r kbX2_narrow ki_55 rfl
theorem dX2_narrow_28 : decode cX2_narrow 28 = .ok (.iadd, 1) := kd_r kbX2_narrow ki_30 rfl
theorem dX2_narrow_29 : decode cX2_narrow 29 = .ok (.aaload, 1) := kd_r kbX2_narrow ki_137 rfl
theorem dX2_narrow_30 : decode cX2_narrow 30 = .ok (.iload_n 2, 1) := kd_r kbX2_narrow ki_11 rfl
theorem dX2_narrow_31 : decode cX2_narrow 31 = .ok (.laload, 1) := kd_r kbX2_narrow ki_149 rfl
theorem dX2_narrow_32 : decode cX2_narrow 32 = .ok (.land, 1) := kd_r kbX2_narrow ki_141 rfl
theorem dX2_narrow_33 : decode cX2_narrow 33 = .ok (.lstore 4, 2) := kd_r kbX2_narrow ki_179 rfl
theorem dX2_narrow_35 : decode cX2_narrow 35 = .ok (.aload_n 0, 1) := kd_r kbX2_narrow ki_0 rfl
theorem dX2_narrow_36 : decode cX2_narrow 36 = .ok (.getfield 32, 3) := kd_r kbX2_narrow ki_147 rfl
theorem dX2_narrow_39 : decode cX2_narrow 39 = .ok (.iload_n 1, 1) := kd_r kbX2_narrow ki_8 rfl
theorem dX2_narrow_40 : decode cX2_narrow 40 = .ok (.iconst 1, 1) := kd_r kbX2_narrow ki_16 rfl
theorem dX2_narrow_41 : decode cX2_narrow 41 = .ok (.iadd, 1) := kd_r kbX2_narrow ki_30 rfl
theorem dX2_narrow_42 : decode cX2_narrow 42 = .ok (.aaload, 1) := kd_r kbX2_narrow ki_137 rfl
theorem dX2_narrow_43 : decode cX2_narrow 43 = .ok (.iload_n 3, 1) := kd_r kbX2_narrow ki_55 rfl
theorem dX2_narrow_44 : decode cX2_narrow 44 = .ok (.lload 4, 2) := kd_r kbX2_narrow ki_180 rfl
theorem dX2_narrow_46 : decode cX2_narrow 46 = .ok (.lastore, 1) := kd_r kbX2_narrow ki_142 rfl
theorem dX2_narrow_47 : decode cX2_narrow 47 = .ok (.lload 4, 2) := kd_r kbX2_narrow ki_180 rfl
theorem dX2_narrow_49 : decode cX2_narrow 49 = .ok (.lconst 0, 1) := kd_r kbX2_narrow ki_172 rfl
theorem dX2_narrow_50 : decode cX2_narrow 50 = .ok (.lcmp, 1) := kd_r kbX2_narrow ki_173 rfl
theorem dX2_narrow_51 : decode cX2_narrow 51 = .ok (.ifCond .ne 5, 3) := kd_r kbX2_narrow ki_36 rfl
theorem dX2_narrow_54 : decode cX2_narrow 54 = .ok (.iconst 0, 1) := kd_r kbX2_narrow ki_20 rfl
theorem dX2_narrow_55 : decode cX2_narrow 55 = .ok (.ireturn, 1) := kd_r kbX2_narrow ki_7 rfl
theorem dX2_narrow_56 : decode cX2_narrow 56 = .ok (.iinc 3 1, 3) := kd_r kbX2_narrow ki_116 rfl
theorem dX2_narrow_59 : decode cX2_narrow 59 = .ok (.goto (-55), 3) := kd_r kbX2_narrow ki_181 rfl
theorem dX2_narrow_62 : decode cX2_narrow 62 = .ok (.iconst 1, 1) := kd_r kbX2_narrow ki_16 rfl
theorem dX2_narrow_63 : decode cX2_narrow 63 = .ok (.ireturn, 1) := kd_r kbX2_narrow ki_7 rfl
set_option maxRecDepth 20000 in
theorem ggX2_countWays_J13_numberOfTrailingZeros_95d88 : GoodIn wsX2_countWays wsJ13_numberOfTrailingZeros_95d88 := goodIn_r _ [17, 18, 19, 20, 21, 22] rfl (by decide +kernel)
set_option maxRecDepth 20000 in
theorem gX2_countWays_J13_numberOfTrailingZeros_95d88 : GoodIn wsX2_countWays (va_wsS RX2 112 yJ13_numberOfTrailingZeros_95d88 wsJ13_numberOfTrailingZeros_95d88) := goodIn_app (goodIn_of _ (by decide +kernel)) ggX2_countWays_J13_numberOfTrailingZeros_95d88
set_option maxRecDepth 20000 in
theorem ggX2_countWays_J13_bitCount_95d88 : GoodIn wsX2_countWays wsJ13_bitCount_95d88 := goodIn_r _ [25, 26, 27, 28] rfl (by decide +kernel)
set_option maxRecDepth 20000 in
theorem gX2_countWays_J13_bitCount_95d88 : GoodIn wsX2_countWays (va_wsS RX2 124 yJ13_bitCount_95d88 wsJ13_bitCount_95d88) := goodIn_app (goodIn_of _ (by decide +kernel)) ggX2_countWays_J13_bitCount_95d88
theorem dX2_countWays_0 : decode cX2_countWays 0 = .ok (.aload_n 0, 1) := kd_r kbX2_countWays ki_0 rfl
theorem dX2_countWays_1 : decode cX2_countWays 1 = .ok (.getfield 32, 3) := kd_r kbX2_countWays ki_147 rfl
theorem dX2_countWays_4 : decode cX2_countWays 4 = .ok (.iload_n 1, 1) := kd_r kbX2_countWays ki_8 rfl
theorem dX2_countWays_5 : decode cX2_countWays 5 = .ok (.aaload, 1) := kd_r kbX2_countWays ki_137 rfl
theorem dX2_countWays_6 : decode cX2_countWays 6 = .ok (.iload_n 1, 1) := kd_r kbX2_countWays ki_8 rfl
theorem dX2_countWays_7 : decode cX2_countWays 7 = .ok (.laload, 1) := kd_r kbX2_countWays ki_149 rfl
theorem dX2_countWays_8 : decode cX2_countWays 8 = .ok (.lstore_n 2, 1) := kd_r kbX2_countWays ki_128 rfl
theorem dX2_countWays_9 : decode cX2_countWays 9 = .ok (.lload_n 2, 1) := kd_r kbX2_countWays ki_138 rfl
theorem dX2_countWays_10 : decode cX2_countWays 10 = .ok (.lconst 0, 1) := kd_r kbX2_countWays ki_172 rfl
theorem dX2_countWays_11 : decode cX2_countWays 11 = .ok (.lcmp, 1) := kd_r kbX2_countWays ki_173 rfl
theorem dX2_countWays_12 : decode cX2_countWays 12 = .ok (.ifCond .ne 4, 3) := kd_r kbX2_countWays ki_182 rfl
theorem dX2_countWays_15 : decode cX2_countWays 15 = .ok (.return_, 1) := kd_r kbX2_countWays ki_5 rfl
theorem dX2_countWays_16 : decode cX2_countWays 16 = .ok (.aload_n 0, 1) := kd_r kbX2_countWays ki_0 rfl
theorem dX2_countWays_17 : decode cX2_countWays 17 = .ok (.getfield 70, 3) := kd_r kbX2_countWays ki_119 rfl
theorem dX2_countWays_20 : decode cX2_countWays 20 = .ok (.ifCond .ne 27, 3) := kd_r kbX2_countWays ki_183 rfl
theorem dX2_countWays_23 : decode cX2_countWays 23 = .ok (.aload_n 0, 1) := kd_r kbX2_countWays ki_0 rfl
theorem dX2_countWays_24 : decode cX2_countWays 24 = .ok (.getfield 35, 3) := kd_r kbX2_countWays ki_176 rfl
theorem dX2_countWays_27 : decode cX2_countWays 27 = .ok (.iload_n 1, 1) := kd_r kbX2_countWays ki_8 rfl
theorem dX2_countWays_28 : decode cX2_countWays 28 = .ok (.lload_n 2, 1) := kd_r kbX2_countWays ki_138 rfl
theorem dX2_countWays_29 : decode cX2_countWays 29 = .ok (.invokestatic 112, 3) := kd_r kbX2_countWays ki_184 rfl
theorem dX2_countWays_32 : decode cX2_countWays 32 = .ok (.iastore, 1) := kd_r kbX2_countWays ki_28 rfl
theorem dX2_countWays_33 : decode cX2_countWays 33 = .ok (.aload_n 0, 1) := kd_r kbX2_countWays ki_0 rfl
theorem dX2_countWays_34 : decode cX2_countWays 34 = .ok (.getfield 35, 3) := kd_r kbX2_countWays ki_176 rfl
theorem dX2_countWays_37 : decode cX2_countWays 37 = .ok (.iconst 0, 1) := kd_r kbX2_countWays ki_20 rfl
theorem dX2_countWays_38 : decode cX2_countWays 38 = .ok (.aload_n 0, 1) := kd_r kbX2_countWays ki_0 rfl
theorem dX2_countWays_39 : decode cX2_countWays 39 = .ok (.getfield 38, 3) := kd_r kbX2_countWays ki_120 rfl
theorem dX2_countWays_42 : decode cX2_countWays 42 = .ok (.iconst 0, 1) := kd_r kbX2_countWays ki_20 rfl
theorem dX2_countWays_43 : decode cX2_countWays 43 = .ok (.iconst 5, 1) := kd_r kbX2_countWays ki_79 rfl
theorem dX2_countWays_44 : decode cX2_countWays 44 = .ok (.invokestatic 118, 3) := kd_r kbX2_countWays ki_185 rfl
theorem dX2_countWays_47 : decode cX2_countWays 47 = .ok (.aload_n 0, 1) := kd_r kbX2_countWays ki_0 rfl
theorem dX2_countWays_48 : decode cX2_countWays 48 = .ok (.ldc 107, 2) := kd_r kbX2_countWays ki_169 rfl
theorem dX2_countWays_50 : decode cX2_countWays 50 = .ok (.aload_n 0, 1) := kd_r kbX2_countWays ki_0 rfl
theorem dX2_countWays_51 : decode cX2_countWays 51 = .ok (.getfield 70, 3) := kd_r kbX2_countWays ki_119 rfl
theorem dX2_countWays_54 : decode cX2_countWays 54 = .ok (.lload_n 2, 1) := kd_r kbX2_countWays ki_138 rfl
theorem dX2_countWays_55 : decode cX2_countWays 55 = .ok (.invokestatic 124, 3) := kd_r kbX2_countWays ki_186 rfl
theorem dX2_countWays_58 : decode cX2_countWays 58 = .ok (.iadd, 1) := kd_r kbX2_countWays ki_30 rfl
theorem dX2_countWays_59 : decode cX2_countWays 59 = .ok (.invokestatic 61, 3) := kd_r kbX2_countWays ki_102 rfl
theorem dX2_countWays_62 : decode cX2_countWays 62 = .ok (.putfield 70, 3) := kd_r kbX2_countWays ki_104 rfl
theorem dX2_countWays_65 : decode cX2_countWays 65 = .ok (.return_, 1) := kd_r kbX2_countWays ki_5 rfl
theorem dX3_init_0 : decode cX3_init 0 = .ok (.aload_n 0, 1) := kd_r kbX3_init ki_0 rfl
theorem dX3_init_1 : decode cX3_init 1 = .ok (.invokespecial 3, 3) := kd_r kbX3_init ki_1 rfl
theorem dX3_init_4 : decode cX3_init 4 = .ok (.aload_n 0, 1) := kd_r kbX3_init ki_0 rfl
theorem dX3_init_5 : decode cX3_init 5 = .ok (.bipush 41, 2) := kd_r kbX3_init ki_187 rfl
theorem dX3_init_7 : decode cX3_init 7 = .ok (.newarray .int, 2) := kd_r kbX3_init ki_3 rfl
theorem dX3_init_9 : decode cX3_init 9 = .ok (.putfield 9, 3) := kd_r kbX3_init ki_4 rfl
theorem dX3_init_12 : decode cX3_init 12 = .ok (.aload_n 0, 1) := kd_r kbX3_init ki_0 rfl
theorem dX3_init_13 : decode cX3_init 13 = .ok (.bipush 41, 2) := kd_r kbX3_init ki_187 rfl
theorem dX3_init_15 : decode cX3_init 15 = .ok (.newarray .int, 2) := kd_r kbX3_init ki_3 rfl
theorem dX3_init_17 : decode cX3_init 17 = .ok (.putfield 15, 3) := kd_r kbX3_init ki_31 rfl
theorem dX3_init_20 : decode cX3_init 20 = .ok (.aload_n 0, 1) := kd_r kbX3_init ki_0 rfl
theorem dX3_init_21 : decode cX3_init 21 = .ok (.bipush 41, 2) := kd_r kbX3_init ki_187 rfl
theorem dX3_init_23 : decode cX3_init 23 = .ok (.newarray .int, 2) := kd_r kbX3_init ki_3 rfl
theorem dX3_init_25 : decode cX3_init 25 = .ok (.putfield 18, 3) := kd_r kbX3_init ki_73 rfl
theorem dX3_init_28 : decode cX3_init 28 = .ok (.aload_n 0, 1) := kd_r kbX3_init ki_0 rfl
theorem dX3_init_29 : decode cX3_init 29 = .ok (.bipush 41, 2) := kd_r kbX3_init ki_187 rfl
theorem dX3_init_31 : decode cX3_init 31 = .ok (.newarray .int, 2) := kd_r kbX3_init ki_3 rfl
theorem dX3_init_33 : decode cX3_init 33 = .ok (.putfield 21, 3) := kd_r kbX3_init ki_75 rfl
theorem dX3_init_36 : decode cX3_init 36 = .ok (.return_, 1) := kd_r kbX3_init ki_5 rfl
theorem dX3_isWidthAndSlack_0 : decode cX3_isWidthAndSlack 0 = .ok (.iload_n 0, 1) := kd_r kbX3_isWidthAndSlack ki_40 rfl
theorem dX3_isWidthAndSlack_1 : decode cX3_isWidthAndSlack 1 = .ok (.sipush 1000, 3) := kd_r kbX3_isWidthAndSlack ki_188 rfl
theorem dX3_isWidthAndSlack_4 : decode cX3_isWidthAndSlack 4 = .ok (.if_icmp .lt 13, 3) := kd_r kbX3_isWidthAndSlack ki_189 rfl
theorem dX3_isWidthAndSlack_7 : decode cX3_isWidthAndSlack 7 = .ok (.iload_n 0, 1) := kd_r kbX3_isWidthAndSlack ki_40 rfl
theorem dX3_isWidthAndSlack_8 : decode cX3_isWidthAndSlack 8 = .ok (.ldc 24, 2) := kd_r kbX3_isWidthAndSlack ki_190 rfl
theorem dX3_isWidthAndSlack_10 : decode cX3_isWidthAndSlack 10 = .ok (.if_icmp .gt 7, 3) := kd_r kbX3_isWidthAndSlack ki_191 rfl
theorem dX3_isWidthAndSlack_13 : decode cX3_isWidthAndSlack 13 = .ok (.iconst 1, 1) := kd_r kbX3_isWidthAndSlack ki_16 rfl
theorem dX3_isWidthAndSlack_14 : decode cX3_isWidthAndSlack 14 = .ok (.goto 4, 3) := kd_r kbX3_isWidthAndSlack ki_19 rfl
theorem dX3_isWidthAndSlack_17 : decode cX3_isWidthAndSlack 17 = .ok (.iconst 0, 1) := kd_r kbX3_isWidthAndSlack ki_20 rfl
theorem dX3_isWidthAndSlack_18 : decode cX3_isWidthAndSlack 18 = .ok (.ireturn, 1) := kd_r kbX3_isWidthAndSlack ki_7 rfl
set_option maxRecDepth 20000 in
theorem ggX3_canPart_X9_size : GoodIn wsX3_canPart wsX9_size := goodIn_r _ [10, 11, 38, 39, 40, 41] rfl (by decide +kernel)
set_option maxRecDepth 20000 in
theorem gX3_canPart_X9_size : GoodIn wsX3_canPart (wsV RX3 25 RX9 yX9_size wsX9_size) := goodIn_app (goodIn_of _ (by decide +kernel)) ggX3_canPart_X9_size
set_option maxRecDepth 20000 in
theorem ggX3_canPart_X3_chooseGroup : GoodIn wsX3_canPart wsX3_chooseGroup := goodIn_r _ [16, 1, 5, 2, 17, 18, 19, 20, 6, 7, 8, 9, 10, 11, 21, 22, 23, 24, 25, 26, 27, 28, 29, 30, 31, 32, 15, 33, 3, 4, 34, 35, 36, 37, 38, 39, 40, 41] rfl (by decide +kernel)
set_option maxRecDepth 20000 in
theorem gX3_canPart_X3_chooseGroup : GoodIn wsX3_canPart (wsV RX3 31 RX3 yX3_chooseGroup wsX3_chooseGroup) := goodIn_app (goodIn_of _ (by decide +kernel)) ggX3_canPart_X3_chooseGroup
theorem dX3_canPart_0 : decode cX3_canPart 0 = .ok (.aload_n 1, 1) := kd_r kbX3_canPart ki_69 rfl
theorem dX3_canPart_1 : decode cX3_canPart 1 = .ok (.invokevirtual 25, 3) := kd_r kbX3_canPart ki_192 rfl
theorem dX3_canPart_4 : decode cX3_canPart 4 = .ok (.istore 4, 2) := kd_r kbX3_canPart ki_129 rfl
theorem dX3_canPart_6 : decode cX3_canPart 6 = .ok (.iload 4, 2) := kd_r kbX3_canPart ki_57 rfl
theorem dX3_canPart_8 : decode cX3_canPart 8 = .ok (.ifCond .lt 13, 3) := kd_r kbX3_canPart ki_41 rfl
theorem dX3_canPart_11 : decode cX3_canPart 11 = .ok (.iload 4, 2) := kd_r kbX3_canPart ki_57 rfl
theorem dX3_canPart_13 : decode cX3_canPart 13 = .ok (.aload_n 0, 1) := kd_r kbX3_canPart ki_0 rfl
theorem dX3_canPart_14 : decode cX3_canPart 14 = .ok (.getfield 9, 3) := kd_r kbX3_canPart ki_13 rfl
theorem dX3_canPart_17 : decode cX3_canPart 17 = .ok (.arraylength, 1) := kd_r kbX3_canPart ki_33 rfl
theorem dX3_canPart_18 : decode cX3_canPart 18 = .ok (.if_icmp .lt 5, 3) := kd_r kbX3_canPart ki_193 rfl
theorem dX3_canPart_23 : decode cX3_canPart 23 = .ok (.aload_n 0, 1) := kd_r kbX3_canPart ki_0 rfl
theorem dX3_canPart_24 : decode cX3_canPart 24 = .ok (.getfield 9, 3) := kd_r kbX3_canPart ki_13 rfl
theorem dX3_canPart_27 : decode cX3_canPart 27 = .ok (.iload 4, 2) := kd_r kbX3_canPart ki_57 rfl
theorem dX3_canPart_29 : decode cX3_canPart 29 = .ok (.iconst 0, 1) := kd_r kbX3_canPart ki_20 rfl
theorem dX3_canPart_30 : decode cX3_canPart 30 = .ok (.iastore, 1) := kd_r kbX3_canPart ki_28 rfl
theorem dX3_canPart_31 : decode cX3_canPart 31 = .ok (.aload_n 0, 1) := kd_r kbX3_canPart ki_0 rfl
theorem dX3_canPart_32 : decode cX3_canPart 32 = .ok (.getfield 15, 3) := kd_r kbX3_canPart ki_6 rfl
theorem dX3_canPart_35 : decode cX3_canPart 35 = .ok (.iload 4, 2) := kd_r kbX3_canPart ki_57 rfl
theorem dX3_canPart_37 : decode cX3_canPart 37 = .ok (.iconst 0, 1) := kd_r kbX3_canPart ki_20 rfl
theorem dX3_canPart_38 : decode cX3_canPart 38 = .ok (.iastore, 1) := kd_r kbX3_canPart ki_28 rfl
theorem dX3_canPart_39 : decode cX3_canPart 39 = .ok (.aload_n 0, 1) := kd_r kbX3_canPart ki_0 rfl
theorem dX3_canPart_40 : decode cX3_canPart 40 = .ok (.getfield 18, 3) := kd_r kbX3_canPart ki_87 rfl
theorem dX3_canPart_43 : decode cX3_canPart 43 = .ok (.iload 4, 2) := kd_r kbX3_canPart ki_57 rfl
theorem dX3_canPart_45 : decode cX3_canPart 45 = .ok (.iconst 0, 1) := kd_r kbX3_canPart ki_20 rfl
theorem dX3_canPart_46 : decode cX3_canPart 46 = .ok (.iastore, 1) := kd_r kbX3_canPart ki_28 rfl
theorem dX3_canPart_47 : decode cX3_canPart 47 = .ok (.aload_n 0, 1) := kd_r kbX3_canPart ki_0 rfl
theorem dX3_canPart_48 : decode cX3_canPart 48 = .ok (.getfield 21, 3) := kd_r kbX3_canPart ki_94 rfl
theorem dX3_canPart_51 : decode cX3_canPart 51 = .ok (.iload 4, 2) := kd_r kbX3_canPart ki_57 rfl
theorem dX3_canPart_53 : decode cX3_canPart 53 = .ok (.iconst 0, 1) := kd_r kbX3_canPart ki_20 rfl
theorem dX3_canPart_54 : decode cX3_canPart 54 = .ok (.iastore, 1) := kd_r kbX3_canPart ki_28 rfl
theorem dX3_canPart_55 : decode cX3_canPart 55 = .ok (.iload 4, 2) := kd_r kbX3_canPart ki_57 rfl
theorem dX3_canPart_57 : decode cX3_canPart 57 = .ok (.iconst 1, 1) := kd_r kbX3_canPart ki_16 rfl
theorem dX3_canPart_58 : decode cX3_canPart 58 = .ok (.isub, 1) := kd_r kbX3_canPart ki_50 rfl
theorem dX3_canPart_59 : decode cX3_canPart 59 = .ok (.istore 5, 2) := kd_r kbX3_canPart ki_133 rfl
theorem dX3_canPart_61 : decode cX3_canPart 61 = .ok (.iload 5, 2) := kd_r kbX3_canPart ki_134 rfl
theorem dX3_canPart_63 : decode cX3_canPart 63 = .ok (.ifCond .lt 18, 3) := kd_r kbX3_canPart ki_194 rfl
theorem dX3_canPart_66 : decode cX3_canPart 66 = .ok (.aload_n 0, 1) := kd_r kbX3_canPart ki_0 rfl
theorem dX3_canPart_67 : decode cX3_canPart 67 = .ok (.aload_n 1, 1) := kd_r kbX3_canPart ki_69 rfl
theorem dX3_canPart_68 : decode cX3_canPart 68 = .ok (.iload 5, 2) := kd_r kbX3_canPart ki_134 rfl
theorem dX3_canPart_70 : decode cX3_canPart 70 = .ok (.iload_n 2, 1) := kd_r kbX3_canPart ki_11 rfl
theorem dX3_canPart_71 : decode cX3_canPart 71 = .ok (.iload_n 3, 1) := kd_r kbX3_canPart ki_55 rfl
theorem dX3_canPart_72 : decode cX3_canPart 72 = .ok (.invokevirtual 31, 3) := kd_r kbX3_canPart ki_195 rfl
theorem dX3_canPart_75 : decode cX3_canPart 75 = .ok (.iinc 5 (-1), 3) := kd_r kbX3_canPart ki_196 rfl
theorem dX3_canPart_78 : decode cX3_canPart 78 = .ok (.goto (-17), 3) := kd_r kbX3_canPart ki_197 rfl
theorem dX3_canPart_81 : decode cX3_canPart 81 = .ok (.aload_n 0, 1) := kd_r kbX3_canPart ki_0 rfl
theorem dX3_canPart_82 : decode cX3_canPart 82 = .ok (.getfield 9, 3) := kd_r kbX3_canPart ki_13 rfl
theorem dX3_canPart_85 : decode cX3_canPart 85 = .ok (.iconst 0, 1) := kd_r kbX3_canPart ki_20 rfl
theorem dX3_canPart_86 : decode cX3_canPart 86 = .ok (.iaload, 1) := kd_r kbX3_canPart ki_14 rfl
theorem dX3_canPart_87 : decode cX3_canPart 87 = .ok (.ldc 35, 2) := kd_r kbX3_canPart ki_198 rfl
theorem dX3_canPart_89 : decode cX3_canPart 89 = .ok (.if_icmp .ge 7, 3) := kd_r kbX3_canPart ki_42 rfl
theorem dX3_canPart_92 : decode cX3_canPart 92 = .ok (.iconst 1, 1) := kd_r kbX3_canPart ki_16 rfl
theorem dX3_canPart_93 : decode cX3_canPart 93 = .ok (.goto 4, 3) := kd_r kbX3_canPart ki_19 rfl
theorem dX3_canPart_96 : decode cX3_canPart 96 = .ok (.iconst 0, 1) := kd_r kbX3_canPart ki_20 rfl
theorem dX3_canPart_97 : decode cX3_canPart 97 = .ok (.ireturn, 1) := kd_r kbX3_canPart ki_7 rfl
set_option maxRecDepth 20000 in
theorem ggX3_chooseGroup_X9_size : GoodIn wsX3_chooseGroup wsX9_size := goodIn_r _ [12, 13, 34, 35, 36, 37] rfl (by decide +kernel)
set_option maxRecDepth 20000 in
theorem gX3_chooseGroup_X9_size : GoodIn wsX3_chooseGroup (wsV RX3 25 RX9 yX9_size wsX9_size) := goodIn_app (goodIn_of _ (by decide +kernel)) ggX3_chooseGroup_X9_size
set_option maxRecDepth 20000 in
theorem ggX3_chooseGroup_X9_width : GoodIn wsX3_chooseGroup wsX9_width := goodIn_r _ [17, 18, 19, 20, 21, 11, 22, 13, 34, 35, 36, 37] rfl (by decide +kernel)
set_option maxRecDepth 20000 in
theorem gX3_chooseGroup_X9_width : GoodIn wsX3_chooseGroup (wsV RX3 36 RX9 yX9_width wsX9_width) := goodIn_app (goodIn_of _ (by decide +kernel)) ggX3_chooseGroup_X9_width
set_option maxRecDepth 20000 in
theorem ggX3_chooseGroup_X3_offer : GoodIn wsX3_chooseGroup wsX3_offer := goodIn_r _ [27, 1, 2, 3, 28, 29, 30, 31, 32, 33] rfl (by decide +kernel)
set_option maxRecDepth 20000 in
theorem gX3_chooseGroup_X3_offer : GoodIn wsX3_chooseGroup (wsV RX3 45 RX3 yX3_offer wsX3_offer) := goodIn_app (goodIn_of _ (by decide +kernel)) ggX3_chooseGroup_X3_offer
theorem dX3_chooseGroup_0 : decode cX3_chooseGroup 0 = .ok (.aload_n 0, 1) := kd_r kbX3_chooseGroup ki_0 rfl
theorem dX3_chooseGroup_1 : decode cX3_chooseGroup 1 = .ok (.getfield 9, 3) := kd_r kbX3_chooseGroup ki_13 rfl
theorem dX3_chooseGroup_4 : decode cX3_chooseGroup 4 = .ok (.iload_n 2, 1) := kd_r kbX3_chooseGroup ki_11 rfl
theorem dX3_chooseGroup_5 : decode cX3_chooseGroup 5 = .ok (.ldc 35, 2) := kd_r kbX3_chooseGroup ki_198 rfl
theorem dX3_chooseGroup_7 : decode cX3_chooseGroup 7 = .ok (.iastore, 1) := kd_r kbX3_chooseGroup ki_28 rfl
theorem dX3_chooseGroup_8 : decode cX3_chooseGroup 8 = .ok (.aload_n 0, 1) := kd_r kbX3_chooseGroup ki_0 rfl
theorem dX3_chooseGroup_9 : decode cX3_chooseGroup 9 = .ok (.getfield 15, 3) := kd_r kbX3_chooseGroup ki_6 rfl
theorem dX3_chooseGroup_12 : decode cX3_chooseGroup 12 = .ok (.iload_n 2, 1) := kd_r kbX3_chooseGroup ki_11 rfl
theorem dX3_chooseGroup_13 : decode cX3_chooseGroup 13 = .ok (.iconst 0, 1) := kd_r kbX3_chooseGroup ki_20 rfl
theorem dX3_chooseGroup_14 : decode cX3_chooseGroup 14 = .ok (.iastore, 1) := kd_r kbX3_chooseGroup ki_28 rfl
theorem dX3_chooseGroup_15 : decode cX3_chooseGroup 15 = .ok (.iconst 0, 1) := kd_r kbX3_chooseGroup ki_20 rfl
theorem dX3_chooseGroup_16 : decode cX3_chooseGroup 16 = .ok (.istore 5, 2) := kd_r kbX3_chooseGroup ki_133 rfl
theorem dX3_chooseGroup_18 : decode cX3_chooseGroup 18 = .ok (.iconst 1, 1) := kd_r kbX3_chooseGroup ki_16 rfl
theorem dX3_chooseGroup_19 : decode cX3_chooseGroup 19 = .ok (.istore 6, 2) := kd_r kbX3_chooseGroup ki_199 rfl
theorem dX3_chooseGroup_21 : decode cX3_chooseGroup 21 = .ok (.iload 6, 2) := kd_r kbX3_chooseGroup ki_200 rfl
theorem dX3_chooseGroup_23 : decode cX3_chooseGroup 23 = .ok (.bipush 6, 2) := kd_r kbX3_chooseGroup ki_2 rfl
theorem dX3_chooseGroup_25 : decode cX3_chooseGroup 25 = .ok (.if_icmp .gt 78, 3) := kd_r kbX3_chooseGroup ki_201 rfl
theorem dX3_chooseGroup_28 : decode cX3_chooseGroup 28 = .ok (.iload_n 2, 1) := kd_r kbX3_chooseGroup ki_11 rfl
theorem dX3_chooseGroup_29 : decode cX3_chooseGroup 29 = .ok (.iload 6, 2) := kd_r kbX3_chooseGroup ki_200 rfl
theorem dX3_chooseGroup_31 : decode cX3_chooseGroup 31 = .ok (.iadd, 1) := kd_r kbX3_chooseGroup ki_30 rfl
theorem dX3_chooseGroup_32 : decode cX3_chooseGroup 32 = .ok (.aload_n 1, 1) := kd_r kbX3_chooseGroup ki_69 rfl
theorem dX3_chooseGroup_33 : decode cX3_chooseGroup 33 = .ok (.invokevirtual 25, 3) := kd_r kbX3_chooseGroup ki_192 rfl
theorem dX3_chooseGroup_36 : decode cX3_chooseGroup 36 = .ok (.if_icmp .gt 67, 3) := kd_r kbX3_chooseGroup ki_202 rfl
theorem dX3_chooseGroup_39 : decode cX3_chooseGroup 39 = .ok (.iload 5, 2) := kd_r kbX3_chooseGroup ki_134 rfl
theorem dX3_chooseGroup_41 : decode cX3_chooseGroup 41 = .ok (.aload_n 1, 1) := kd_r kbX3_chooseGroup ki_69 rfl
theorem dX3_chooseGroup_42 : decode cX3_chooseGroup 42 = .ok (.iload_n 2, 1) := kd_r kbX3_chooseGroup ki_11 rfl
theorem dX3_chooseGroup_43 : decode cX3_chooseGroup 43 = .ok (.iload 6, 2) := kd_r kbX3_chooseGroup ki_200 rfl
theorem dX3_chooseGroup_45 : decode cX3_chooseGroup 45 = .ok (.iadd, 1) := kd_r kbX3_chooseGroup ki_30 rfl
theorem dX3_chooseGroup_46 : decode cX3_chooseGroup 46 = .ok (.iconst 1, 1) := kd_r kbX3_chooseGroup ki_16 rfl
theorem dX3_chooseGroup_47 : decode cX3_chooseGroup 47 = .ok (.isub, 1) := kd_r kbX3_chooseGroup ki_50 rfl
theorem dX3_chooseGroup_48 : decode cX3_chooseGroup 48 = .ok (.invokevirtual 36, 3) := kd_r kbX3_chooseGroup ki_203 rfl
theorem dX3_chooseGroup_51 : decode cX3_chooseGroup 51 = .ok (.iadd, 1) := kd_r kbX3_chooseGroup ki_30 rfl
theorem dX3_chooseGroup_52 : decode cX3_chooseGroup 52 = .ok (.istore 5, 2) := kd_r kbX3_chooseGroup ki_133 rfl
theorem dX3_chooseGroup_54 : decode cX3_chooseGroup 54 = .ok (.iconst 1, 1) := kd_r kbX3_chooseGroup ki_16 rfl
theorem dX3_chooseGroup_55 : decode cX3_chooseGroup 55 = .ok (.istore 7, 2) := kd_r kbX3_chooseGroup ki_152 rfl
theorem dX3_chooseGroup_57 : decode cX3_chooseGroup 57 = .ok (.iload 7, 2) := kd_r kbX3_chooseGroup ki_153 rfl
theorem dX3_chooseGroup_59 : decode cX3_chooseGroup 59 = .ok (.bipush 6, 2) := kd_r kbX3_chooseGroup ki_2 rfl
theorem dX3_chooseGroup_61 : decode cX3_chooseGroup 61 = .ok (.if_icmp .gt 36, 3) := kd_r kbX3_chooseGroup ki_204 rfl
theorem dX3_chooseGroup_64 : decode cX3_chooseGroup 64 = .ok (.iload 5, 2) := kd_r kbX3_chooseGroup ki_134 rfl
theorem dX3_chooseGroup_66 : decode cX3_chooseGroup 66 = .ok (.iload 7, 2) := kd_r kbX3_chooseGroup ki_153 rfl
theorem dX3_chooseGroup_68 : decode cX3_chooseGroup 68 = .ok (.iload_n 3, 1) := kd_r kbX3_chooseGroup ki_55 rfl
theorem dX3_chooseGroup_69 : decode cX3_chooseGroup 69 = .ok (.imul, 1) := kd_r kbX3_chooseGroup ki_114 rfl
theorem dX3_chooseGroup_70 : decode cX3_chooseGroup 70 = .ok (.isub, 1) := kd_r kbX3_chooseGroup ki_50 rfl
theorem dX3_chooseGroup_71 : decode cX3_chooseGroup 71 = .ok (.invokestatic 40, 3) := kd_r kbX3_chooseGroup ki_205 rfl
theorem dX3_chooseGroup_74 : decode cX3_chooseGroup 74 = .ok (.iload 7, 2) := kd_r kbX3_chooseGroup ki_153 rfl
theorem dX3_chooseGroup_76 : decode cX3_chooseGroup 76 = .ok (.iload 4, 2) := kd_r kbX3_chooseGroup ki_57 rfl
theorem dX3_chooseGroup_78 : decode cX3_chooseGroup 78 = .ok (.imul, 1) := kd_r kbX3_chooseGroup ki_114 rfl
theorem dX3_chooseGroup_79 : decode cX3_chooseGroup 79 = .ok (.if_icmp .gt 12, 3) := kd_r kbX3_chooseGroup ki_206 rfl
theorem dX3_chooseGroup_82 : decode cX3_chooseGroup 82 = .ok (.aload_n 0, 1) := kd_r kbX3_chooseGroup ki_0 rfl
theorem dX3_chooseGroup_83 : decode cX3_chooseGroup 83 = .ok (.iload_n 2, 1) := kd_r kbX3_chooseGroup ki_11 rfl
theorem dX3_chooseGroup_84 : decode cX3_chooseGroup 84 = .ok (.iload 6, 2) := kd_r kbX3_chooseGroup ki_200 rfl
theorem dX3_chooseGroup_86 : decode cX3_chooseGroup 86 = .ok (.iload 7, 2) := kd_r kbX3_chooseGroup ki_153 rfl
theorem dX3_chooseGroup_88 : decode cX3_chooseGroup 88 = .ok (.invokevirtual 45, 3) := kd_r kbX3_chooseGroup ki_84 rfl
theorem dX3_chooseGroup_91 : decode cX3_chooseGroup 91 = .ok (.iinc 7 1, 3) := kd_r kbX3_chooseGroup ki_164 rfl
theorem dX3_chooseGroup_94 : decode cX3_chooseGroup 94 = .ok (.goto (-37), 3) := kd_r kbX3_chooseGroup ki_207 rfl
theorem dX3_chooseGroup_97 : decode cX3_chooseGroup 97 = .ok (.iinc 6 1, 3) := kd_r kbX3_chooseGroup ki_208 rfl
theorem dX3_chooseGroup_100 : decode cX3_chooseGroup 100 = .ok (.goto (-79), 3) := kd_r kbX3_chooseGroup ki_209 rfl
theorem dX3_chooseGroup_103 : decode cX3_chooseGroup 103 = .ok (.return_, 1) := kd_r kbX3_chooseGroup ki_5 rfl
theorem dX3_offer_0 : decode cX3_offer 0 = .ok (.iload_n 1, 1) := kd_r kbX3_offer ki_8 rfl
theorem dX3_offer_1 : decode cX3_offer 1 = .ok (.iload_n 2, 1) := kd_r kbX3_offer ki_11 rfl
theorem dX3_offer_2 : decode cX3_offer 2 = .ok (.iadd, 1) := kd_r kbX3_offer ki_30 rfl
theorem dX3_offer_3 : decode cX3_offer 3 = .ok (.istore 4, 2) := kd_r kbX3_offer ki_129 rfl
theorem dX3_offer_5 : decode cX3_offer 5 = .ok (.iload 4, 2) := kd_r kbX3_offer ki_57 rfl
theorem dX3_offer_7 : decode cX3_offer 7 = .ok (.aload_n 0, 1) := kd_r kbX3_offer ki_0 rfl
theorem dX3_offer_8 : decode cX3_offer 8 = .ok (.getfield 9, 3) := kd_r kbX3_offer ki_13 rfl
theorem dX3_offer_11 : decode cX3_offer 11 = .ok (.arraylength, 1) := kd_r kbX3_offer ki_33 rfl
theorem dX3_offer_12 : decode cX3_offer 12 = .ok (.if_icmp .ge 15, 3) := kd_r kbX3_offer ki_210 rfl
theorem dX3_offer_15 : decode cX3_offer 15 = .ok (.aload_n 0, 1) := kd_r kbX3_offer ki_0 rfl
theorem dX3_offer_16 : decode cX3_offer 16 = .ok (.getfield 9, 3) := kd_r kbX3_offer ki_13 rfl
theorem dX3_offer_19 : decode cX3_offer 19 = .ok (.iload 4, 2) := kd_r kbX3_offer ki_57 rfl
theorem dX3_offer_21 : decode cX3_offer 21 = .ok (.iaload, 1) := kd_r kbX3_offer ki_14 rfl
theorem dX3_offer_22 : decode cX3_offer 22 = .ok (.ldc 35, 2) := kd_r kbX3_offer ki_198 rfl
theorem dX3_offer_24 : decode cX3_offer 24 = .ok (.if_icmp .lt 4, 3) := kd_r kbX3_offer ki_211 rfl
theorem dX3_offer_27 : decode cX3_offer 27 = .ok (.return_, 1) := kd_r kbX3_offer ki_5 rfl
theorem dX3_offer_28 : decode cX3_offer 28 = .ok (.aload_n 0, 1) := kd_r kbX3_offer ki_0 rfl
theorem dX3_offer_29 : decode cX3_offer 29 = .ok (.getfield 9, 3) := kd_r kbX3_offer ki_13 rfl
theorem dX3_offer_32 : decode cX3_offer 32 = .ok (.iload 4, 2) := kd_r kbX3_offer ki_57 rfl
theorem dX3_offer_34 : decode cX3_offer 34 = .ok (.iaload, 1) := kd_r kbX3_offer ki_14 rfl
theorem dX3_offer_35 : decode cX3_offer 35 = .ok (.iload_n 2, 1) := kd_r kbX3_offer ki_11 rfl
theorem dX3_offer_36 : decode cX3_offer 36 = .ok (.iadd, 1) := kd_r kbX3_offer ki_30 rfl
theorem dX3_offer_37 : decode cX3_offer 37 = .ok (.iconst 1, 1) := kd_r kbX3_offer ki_16 rfl
theorem dX3_offer_38 : decode cX3_offer 38 = .ok (.isub, 1) := kd_r kbX3_offer ki_50 rfl
theorem dX3_offer_39 : decode cX3_offer 39 = .ok (.iload_n 3, 1) := kd_r kbX3_offer ki_55 rfl
theorem dX3_offer_40 : decode cX3_offer 40 = .ok (.iadd, 1) := kd_r kbX3_offer ki_30 rfl
theorem dX3_offer_41 : decode cX3_offer 41 = .ok (.iconst 1, 1) := kd_r kbX3_offer ki_16 rfl
theorem dX3_offer_42 : decode cX3_offer 42 = .ok (.isub, 1) := kd_r kbX3_offer ki_50 rfl
theorem dX3_offer_43 : decode cX3_offer 43 = .ok (.istore 5, 2) := kd_r kbX3_offer ki_133 rfl
theorem dX3_offer_45 : decode cX3_offer 45 = .ok (.aload_n 0, 1) := kd_r kbX3_offer ki_0 rfl
theorem dX3_offer_46 : decode cX3_offer 46 = .ok (.getfield 15, 3) := kd_r kbX3_offer ki_6 rfl
theorem dX3_offer_49 : decode cX3_offer 49 = .ok (.iload 4, 2) := kd_r kbX3_offer ki_57 rfl
theorem dX3_offer_51 : decode cX3_offer 51 = .ok (.iaload, 1) := kd_r kbX3_offer ki_14 rfl
theorem dX3_offer_52 : decode cX3_offer 52 = .ok (.iconst 1, 1) := kd_r kbX3_offer ki_16 rfl
theorem dX3_offer_53 : decode cX3_offer 53 = .ok (.iadd, 1) := kd_r kbX3_offer ki_30 rfl
theorem dX3_offer_54 : decode cX3_offer 54 = .ok (.istore 6, 2) := kd_r kbX3_offer ki_199 rfl
theorem dX3_offer_56 : decode cX3_offer 56 = .ok (.iload 5, 2) := kd_r kbX3_offer ki_134 rfl
theorem dX3_offer_58 : decode cX3_offer 58 = .ok (.aload_n 0, 1) := kd_r kbX3_offer ki_0 rfl
theorem dX3_offer_59 : decode cX3_offer 59 = .ok (.getfield 9, 3) := kd_r kbX3_offer ki_13 rfl
theorem dX3_offer_62 : decode cX3_offer 62 = .ok (.iload_n 1, 1) := kd_r kbX3_offer ki_8 rfl
theorem dX3_offer_63 : decode cX3_offer 63 = .ok (.iaload, 1) := kd_r kbX3_offer ki_14 rfl
theorem dX3_offer_64 : decode cX3_offer 64 = .ok (.if_icmp .lt 25, 3) := kd_r kbX3_offer ki_212 rfl
theorem dX3_offer_67 : decode cX3_offer 67 = .ok (.iload 5, 2) := kd_r kbX3_offer ki_134 rfl
theorem dX3_offer_69 : decode cX3_offer 69 = .ok (.aload_n 0, 1) := kd_r kbX3_offer ki_0 rfl
theorem dX3_offer_70 : decode cX3_offer 70 = .ok (.getfield 9, 3) := kd_r kbX3_offer ki_13 rfl
theorem dX3_offer_73 : decode cX3_offer 73 = .ok (.iload_n 1, 1) := kd_r kbX3_offer ki_8 rfl
theorem dX3_offer_74 : decode cX3_offer 74 = .ok (.iaload, 1) := kd_r kbX3_offer ki_14 rfl
theorem dX3_offer_75 : decode cX3_offer 75 = .ok (.if_icmp .ne 44, 3) := kd_r kbX3_offer ki_213 rfl
theorem dX3_offer_78 : decode cX3_offer 78 = .ok (.iload 6, 2) := kd_r kbX3_offer ki_200 rfl
theorem dX3_offer_80 : decode cX3_offer 80 = .ok (.aload_n 0, 1) := kd_r kbX3_offer ki_0 rfl
theorem dX3_offer_81 : decode cX3_offer 81 = .ok (.getfield 15, 3) := kd_r kbX3_offer ki_6 rfl
theorem dX3_offer_84 : decode cX3_offer 84 = .ok (.iload_n 1, 1) := kd_r kbX3_offer ki_8 rfl
theorem dX3_offer_85 : decode cX3_offer 85 = .ok (.iaload, 1) := kd_r kbX3_offer ki_14 rfl
theorem dX3_offer_86 : decode cX3_offer 86 = .ok (.if_icmp .ge 33, 3) := kd_r kbX3_offer ki_214 rfl
theorem dX3_offer_89 : decode cX3_offer 89 = .ok (.aload_n 0, 1) := kd_r kbX3_offer ki_0 rfl
theorem dX3_offer_90 : decode cX3_offer 90 = .ok (.getfield 9, 3) := kd_r kbX3_offer ki_13 rfl
theorem dX3_offer_93 : decode cX3_offer 93 = .ok (.iload_n 1, 1) := kd_r kbX3_offer ki_8 rfl
theorem dX3_offer_94 : decode cX3_offer 94 = .ok (.iload 5, 2) := kd_r kbX3_offer ki_134 rfl
theorem dX3_offer_96 : decode cX3_offer 96 = .ok (.iastore, 1) := kd_r kbX3_offer ki_28 rfl
theorem dX3_offer_97 : decode cX3_offer 97 = .ok (.aload_n 0, 1) := kd_r kbX3_offer ki_0 rfl
theorem dX3_offer_98 : decode cX3_offer 98 = .ok (.getfield 15, 3) := kd_r kbX3_offer ki_6 rfl
theorem dX3_offer_101 : decode cX3_offer 101 = .ok (.iload_n 1, 1) := kd_r kbX3_offer ki_8 rfl
theorem dX3_offer_102 : decode cX3_offer 102 = .ok (.iload 6, 2) := kd_r kbX3_offer ki_200 rfl
theorem dX3_offer_104 : decode cX3_offer 104 = .ok (.iastore, 1) := kd_r kbX3_offer ki_28 rfl
theorem dX3_offer_105 : decode cX3_offer 105 = .ok (.aload_n 0, 1) := kd_r kbX3_offer ki_0 rfl
theorem dX3_offer_106 : decode cX3_offer 106 = .ok (.getfield 18, 3) := kd_r kbX3_offer ki_87 rfl
theorem dX3_offer_109 : decode cX3_offer 109 = .ok (.iload_n 1, 1) := kd_r kbX3_offer ki_8 rfl
theorem dX3_offer_110 : decode cX3_offer 110 = .ok (.iload_n 2, 1) := kd_r kbX3_offer ki_11 rfl
theorem dX3_offer_111 : decode cX3_offer 111 = .ok (.iastore, 1) := kd_r kbX3_offer ki_28 rfl
theorem dX3_offer_112 : decode cX3_offer 112 = .ok (.aload_n 0, 1) := kd_r kbX3_offer ki_0 rfl
theorem dX3_offer_113 : decode cX3_offer 113 = .ok (.getfield 21, 3) := kd_r kbX3_offer ki_94 rfl
theorem dX3_offer_116 : decode cX3_offer 116 = .ok (.iload_n 1, 1) := kd_r kbX3_offer ki_8 rfl
theorem dX3_offer_117 : decode cX3_offer 117 = .ok (.iload_n 3, 1) := kd_r kbX3_offer ki_55 rfl
theorem dX3_offer_118 : decode cX3_offer 118 = .ok (.iastore, 1) := kd_r kbX3_offer ki_28 rfl
theorem dX3_offer_119 : decode cX3_offer 119 = .ok (.return_, 1) := kd_r kbX3_offer ki_5 rfl
theorem dX3_cost_0 : decode cX3_cost 0 = .ok (.aload_n 0, 1) := kd_r kbX3_cost ki_0 rfl
theorem dX3_cost_1 : decode cX3_cost 1 = .ok (.getfield 9, 3) := kd_r kbX3_cost ki_13 rfl
theorem dX3_cost_4 : decode cX3_cost 4 = .ok (.iconst 0, 1) := kd_r kbX3_cost ki_20 rfl
theorem dX3_cost_5 : decode cX3_cost 5 = .ok (.iaload, 1) := kd_r kbX3_cost ki_14 rfl
theorem dX3_cost_6 : decode cX3_cost 6 = .ok (.ireturn, 1) := kd_r kbX3_cost ki_7 rfl
theorem dX3_groups_0 : decode cX3_groups 0 = .ok (.aload_n 0, 1) := kd_r kbX3_groups ki_0 rfl
theorem dX3_groups_1 : decode cX3_groups 1 = .ok (.getfield 15, 3) := kd_r kbX3_groups ki_6 rfl
theorem dX3_groups_4 : decode cX3_groups 4 = .ok (.iconst 0, 1) := kd_r kbX3_groups ki_20 rfl
theorem dX3_groups_5 : decode cX3_groups 5 = .ok (.iaload, 1) := kd_r kbX3_groups ki_14 rfl
theorem dX3_groups_6 : decode cX3_groups 6 = .ok (.ireturn, 1) := kd_r kbX3_groups ki_7 rfl
theorem dX3_firstOnesAhead_0 : decode cX3_firstOnesAhead 0 = .ok (.iconst 0, 1) := kd_r kbX3_firstOnesAhead ki_20 rfl
theorem dX3_firstOnesAhead_1 : decode cX3_firstOnesAhead 1 = .ok (.istore_n 2, 1) := kd_r kbX3_firstOnesAhead ki_32 rfl
theorem dX3_firstOnesAhead_2 : decode cX3_firstOnesAhead 2 = .ok (.iconst 0, 1) := kd_r kbX3_firstOnesAhead ki_20 rfl
theorem dX3_firstOnesAhead_3 : decode cX3_firstOnesAhead 3 = .ok (.istore_n 3, 1) := kd_r kbX3_firstOnesAhead ki_108 rfl
theorem dX3_firstOnesAhead_4 : decode cX3_firstOnesAhead 4 = .ok (.iconst 0, 1) := kd_r kbX3_firstOnesAhead ki_20 rfl
theorem dX3_firstOnesAhead_5 : decode cX3_firstOnesAhead 5 = .ok (.istore 4, 2) := kd_r kbX3_firstOnesAhead ki_129 rfl
theorem dX3_firstOnesAhead_7 : decode cX3_firstOnesAhead 7 = .ok (.iload 4, 2) := kd_r kbX3_firstOnesAhead ki_57 rfl
theorem dX3_firstOnesAhead_9 : decode cX3_firstOnesAhead 9 = .ok (.bipush 40, 2) := kd_r kbX3_firstOnesAhead ki_44 rfl
theorem dX3_firstOnesAhead_11 : decode cX3_firstOnesAhead 11 = .ok (.if_icmp .ge 55, 3) := kd_r kbX3_firstOnesAhead ki_215 rfl
theorem dX3_firstOnesAhead_14 : decode cX3_firstOnesAhead 14 = .ok (.iload_n 3, 1) := kd_r kbX3_firstOnesAhead ki_55 rfl
theorem dX3_firstOnesAhead_15 : decode cX3_firstOnesAhead 15 = .ok (.bipush 40, 2) := kd_r kbX3_firstOnesAhead ki_44 rfl
theorem dX3_firstOnesAhead_17 : decode cX3_firstOnesAhead 17 = .ok (.if_icmp .ge 49, 3) := kd_r kbX3_firstOnesAhead ki_170 rfl
theorem dX3_firstOnesAhead_20 : decode cX3_firstOnesAhead 20 = .ok (.iload_n 3, 1) := kd_r kbX3_firstOnesAhead ki_55 rfl
theorem dX3_firstOnesAhead_21 : decode cX3_firstOnesAhead 21 = .ok (.aload_n 0, 1) := kd_r kbX3_firstOnesAhead ki_0 rfl
theorem dX3_firstOnesAhead_22 : decode cX3_firstOnesAhead 22 = .ok (.getfield 18, 3) := kd_r kbX3_firstOnesAhead ki_87 rfl
theorem dX3_firstOnesAhead_25 : decode cX3_firstOnesAhead 25 = .ok (.iload_n 3, 1) := kd_r kbX3_firstOnesAhead ki_55 rfl
theorem dX3_firstOnesAhead_26 : decode cX3_firstOnesAhead 26 = .ok (.iaload, 1) := kd_r kbX3_firstOnesAhead ki_14 rfl
theorem dX3_firstOnesAhead_27 : decode cX3_firstOnesAhead 27 = .ok (.iadd, 1) := kd_r kbX3_firstOnesAhead ki_30 rfl
theorem dX3_firstOnesAhead_28 : decode cX3_firstOnesAhead 28 = .ok (.istore 5, 2) := kd_r kbX3_firstOnesAhead ki_133 rfl
theorem dX3_firstOnesAhead_30 : decode cX3_firstOnesAhead 30 = .ok (.aload_n 0, 1) := kd_r kbX3_firstOnesAhead ki_0 rfl
theorem dX3_firstOnesAhead_31 : decode cX3_firstOnesAhead 31 = .ok (.getfield 18, 3) := kd_r kbX3_firstOnesAhead ki_87 rfl
theorem dX3_firstOnesAhead_34 : decode cX3_firstOnesAhead 34 = .ok (.iload_n 3, 1) := kd_r kbX3_firstOnesAhead ki_55 rfl
theorem dX3_firstOnesAhead_35 : decode cX3_firstOnesAhead 35 = .ok (.iaload, 1) := kd_r kbX3_firstOnesAhead ki_14 rfl
theorem dX3_firstOnesAhead_36 : decode cX3_firstOnesAhead 36 = .ok (.iconst 1, 1) := kd_r kbX3_firstOnesAhead ki_16 rfl
theorem dX3_firstOnesAhead_37 : decode cX3_firstOnesAhead 37 = .ok (.if_icmp .lt 9, 3) := kd_r kbX3_firstOnesAhead ki_166 rfl
theorem dX3_firstOnesAhead_40 : decode cX3_firstOnesAhead 40 = .ok (.iload 5, 2) := kd_r kbX3_firstOnesAhead ki_134 rfl
theorem dX3_firstOnesAhead_42 : decode cX3_firstOnesAhead 42 = .ok (.iload_n 1, 1) := kd_r kbX3_firstOnesAhead ki_8 rfl
theorem dX3_firstOnesAhead_43 : decode cX3_firstOnesAhead 43 = .ok (.if_icmp .le 5, 3) := kd_r kbX3_firstOnesAhead ki_106 rfl
theorem dX3_firstOnesAhead_46 : decode cX3_firstOnesAhead 46 = .ok (.iload_n 2, 1) := kd_r kbX3_firstOnesAhead ki_11 rfl
theorem dX3_firstOnesAhead_47 : decode cX3_firstOnesAhead 47 = .ok (.ireturn, 1) := kd_r kbX3_firstOnesAhead ki_7 rfl
theorem dX3_firstOnesAhead_48 : decode cX3_firstOnesAhead 48 = .ok (.iload_n 2, 1) := kd_r kbX3_firstOnesAhead ki_11 rfl
theorem dX3_firstOnesAhead_49 : decode cX3_firstOnesAhead 49 = .ok (.aload_n 0, 1) := kd_r kbX3_firstOnesAhead ki_0 rfl
theorem dX3_firstOnesAhead_50 : decode cX3_firstOnesAhead 50 = .ok (.getfield 21, 3) := kd_r kbX3_firstOnesAhead ki_94 rfl
theorem dX3_firstOnesAhead_53 : decode cX3_firstOnesAhead 53 = .ok (.iload_n 3, 1) := kd_r kbX3_firstOnesAhead ki_55 rfl
theorem dX3_firstOnesAhead_54 : decode cX3_firstOnesAhead 54 = .ok (.iaload, 1) := kd_r kbX3_firstOnesAhead ki_14 rfl
theorem dX3_firstOnesAhead_55 : decode cX3_firstOnesAhead 55 = .ok (.iadd, 1) := kd_r kbX3_firstOnesAhead ki_30 rfl
theorem dX3_firstOnesAhead_56 : decode cX3_firstOnesAhead 56 = .ok (.istore_n 2, 1) := kd_r kbX3_firstOnesAhead ki_32 rfl
theorem dX3_firstOnesAhead_57 : decode cX3_firstOnesAhead 57 = .ok (.iload 5, 2) := kd_r kbX3_firstOnesAhead ki_134 rfl
theorem dX3_firstOnesAhead_59 : decode cX3_firstOnesAhead 59 = .ok (.istore_n 3, 1) := kd_r kbX3_firstOnesAhead ki_108 rfl
theorem dX3_firstOnesAhead_60 : decode cX3_firstOnesAhead 60 = .ok (.iinc 4 1, 3) := kd_r kbX3_firstOnesAhead ki_144 rfl
theorem dX3_firstOnesAhead_63 : decode cX3_firstOnesAhead 63 = .ok (.goto (-56), 3) := kd_r kbX3_firstOnesAhead ki_216 rfl
theorem dX3_firstOnesAhead_66 : decode cX3_firstOnesAhead 66 = .ok (.iload_n 2, 1) := kd_r kbX3_firstOnesAhead ki_11 rfl
theorem dX3_firstOnesAhead_67 : decode cX3_firstOnesAhead 67 = .ok (.ireturn, 1) := kd_r kbX3_firstOnesAhead ki_7 rfl
theorem dX4_init_0 : decode cX4_init 0 = .ok (.aload_n 0, 1) := kd_r kbX4_init ki_0 rfl
theorem dX4_init_1 : decode cX4_init 1 = .ok (.invokespecial 3, 3) := kd_r kbX4_init ki_1 rfl
theorem dX4_init_4 : decode cX4_init 4 = .ok (.aload_n 0, 1) := kd_r kbX4_init ki_0 rfl
theorem dX4_init_5 : decode cX4_init 5 = .ok (.sipush 128, 3) := kd_r kbX4_init ki_217 rfl
theorem dX4_init_8 : decode cX4_init 8 = .ok (.newarray .int, 2) := kd_r kbX4_init ki_3 rfl
theorem dX4_init_10 : decode cX4_init 10 = .ok (.putfield 11, 3) := kd_r kbX4_init ki_72 rfl
theorem dX4_init_13 : decode cX4_init 13 = .ok (.aload_n 0, 1) := kd_r kbX4_init ki_0 rfl
theorem dX4_init_14 : decode cX4_init 14 = .ok (.getstatic 15, 3) := kd_r kbX4_init ki_218 rfl
theorem dX4_init_17 : decode cX4_init 17 = .ok (.arraylength, 1) := kd_r kbX4_init ki_33 rfl
theorem dX4_init_18 : decode cX4_init 18 = .ok (.newarray .int, 2) := kd_r kbX4_init ki_3 rfl
theorem dX4_init_20 : decode cX4_init 20 = .ok (.putfield 19, 3) := kd_r kbX4_init ki_47 rfl
theorem dX4_init_23 : decode cX4_init 23 = .ok (.aload_n 0, 1) := kd_r kbX4_init ki_0 rfl
theorem dX4_init_24 : decode cX4_init 24 = .ok (.bipush 64, 2) := kd_r kbX4_init ki_219 rfl
theorem dX4_init_26 : decode cX4_init 26 = .ok (.newarray .int, 2) := kd_r kbX4_init ki_3 rfl
theorem dX4_init_28 : decode cX4_init 28 = .ok (.putfield 22, 3) := kd_r kbX4_init ki_58 rfl
theorem dX4_init_31 : decode cX4_init 31 = .ok (.return_, 1) := kd_r kbX4_init ki_5 rfl
theorem dX4_nameOf_0 : decode cX4_nameOf 0 = .ok (.iconst 0, 1) := kd_r kbX4_nameOf ki_20 rfl
theorem dX4_nameOf_1 : decode cX4_nameOf 1 = .ok (.istore_n 1, 1) := kd_r kbX4_nameOf ki_60 rfl
theorem dX4_nameOf_2 : decode cX4_nameOf 2 = .ok (.iload_n 1, 1) := kd_r kbX4_nameOf ki_8 rfl
theorem dX4_nameOf_3 : decode cX4_nameOf 3 = .ok (.getstatic 15, 3) := kd_r kbX4_nameOf ki_218 rfl
theorem dX4_nameOf_6 : decode cX4_nameOf 6 = .ok (.arraylength, 1) := kd_r kbX4_nameOf ki_33 rfl
theorem dX4_nameOf_7 : decode cX4_nameOf 7 = .ok (.if_icmp .ge 20, 3) := kd_r kbX4_nameOf ki_220 rfl
theorem dX4_nameOf_10 : decode cX4_nameOf 10 = .ok (.getstatic 15, 3) := kd_r kbX4_nameOf ki_218 rfl
theorem dX4_nameOf_13 : decode cX4_nameOf 13 = .ok (.iload_n 1, 1) := kd_r kbX4_nameOf ki_8 rfl
theorem dX4_nameOf_14 : decode cX4_nameOf 14 = .ok (.caload, 1) := kd_r kbX4_nameOf ki_221 rfl
theorem dX4_nameOf_15 : decode cX4_nameOf 15 = .ok (.iload_n 0, 1) := kd_r kbX4_nameOf ki_40 rfl
theorem dX4_nameOf_16 : decode cX4_nameOf 16 = .ok (.if_icmp .ne 5, 3) := kd_r kbX4_nameOf ki_91 rfl
theorem dX4_nameOf_19 : decode cX4_nameOf 19 = .ok (.iload_n 1, 1) := kd_r kbX4_nameOf ki_8 rfl
theorem dX4_nameOf_20 : decode cX4_nameOf 20 = .ok (.ireturn, 1) := kd_r kbX4_nameOf ki_7 rfl
theorem dX4_nameOf_21 : decode cX4_nameOf 21 = .ok (.iinc 1 1, 3) := kd_r kbX4_nameOf ki_62 rfl
theorem dX4_nameOf_24 : decode cX4_nameOf 24 = .ok (.goto (-22), 3) := kd_r kbX4_nameOf ki_222 rfl
theorem dX4_nameOf_27 : decode cX4_nameOf 27 = .ok (.bipush (-2), 2) := kd_r kbX4_nameOf ki_39 rfl
theorem dX4_nameOf_29 : decode cX4_nameOf 29 = .ok (.ireturn, 1) := kd_r kbX4_nameOf ki_7 rfl
theorem dX4_clear_0 : decode cX4_clear 0 = .ok (.aload_n 0, 1) := kd_r kbX4_clear ki_0 rfl
theorem dX4_clear_1 : decode cX4_clear 1 = .ok (.iconst 0, 1) := kd_r kbX4_clear ki_20 rfl
theorem dX4_clear_2 : decode cX4_clear 2 = .ok (.putfield 25, 3) := kd_r kbX4_clear ki_223 rfl
theorem dX4_clear_5 : decode cX4_clear 5 = .ok (.return_, 1) := kd_r kbX4_clear ki_5 rfl
theorem dX4_append_0 : decode cX4_append 0 = .ok (.aload_n 0, 1) := kd_r kbX4_append ki_0 rfl
theorem dX4_append_1 : decode cX4_append 1 = .ok (.getfield 25, 3) := kd_r kbX4_append ki_224 rfl
theorem dX4_append_4 : decode cX4_append 4 = .ok (.sipush 128, 3) := kd_r kbX4_append ki_217 rfl
theorem dX4_append_7 : decode cX4_append 7 = .ok (.if_icmp .ge 20, 3) := kd_r kbX4_append ki_220 rfl
theorem dX4_append_10 : decode cX4_append 10 = .ok (.aload_n 0, 1) := kd_r kbX4_append ki_0 rfl
theorem dX4_append_11 : decode cX4_append 11 = .ok (.getfield 11, 3) := kd_r kbX4_append ki_86 rfl
theorem dX4_append_14 : decode cX4_append 14 = .ok (.aload_n 0, 1) := kd_r kbX4_append ki_0 rfl
theorem dX4_append_15 : decode cX4_append 15 = .ok (.dup, 1) := kd_r kbX4_append ki_29 rfl
theorem dX4_append_16 : decode cX4_append 16 = .ok (.getfield 25, 3) := kd_r kbX4_append ki_224 rfl
theorem dX4_append_19 : decode cX4_append 19 = .ok (.dup_x1, 1) := kd_r kbX4_append ki_98 rfl
theorem dX4_append_20 : decode cX4_append 20 = .ok (.iconst 1, 1) := kd_r kbX4_append ki_16 rfl
theorem dX4_append_21 : decode cX4_append 21 = .ok (.iadd, 1) := kd_r kbX4_append ki_30 rfl
theorem dX4_append_22 : decode cX4_append 22 = .ok (.putfield 25, 3) := kd_r kbX4_append ki_223 rfl
theorem dX4_append_25 : decode cX4_append 25 = .ok (.iload_n 1, 1) := kd_r kbX4_append ki_8 rfl
theorem dX4_append_26 : decode cX4_append 26 = .ok (.iastore, 1) := kd_r kbX4_append ki_28 rfl
theorem dX4_append_27 : decode cX4_append 27 = .ok (.return_, 1) := kd_r kbX4_append ki_5 rfl
set_option maxRecDepth 20000 in
theorem ggX4_lay_X9_clear : GoodIn wsX4_lay wsX9_clear := goodIn_r _ [5, 6, 114, 115, 116, 117] rfl (by decide +kernel)
set_option maxRecDepth 20000 in
theorem gX4_lay_X9_clear : GoodIn wsX4_lay (wsV RX4 29 RX9 yX9_clear wsX9_clear) := goodIn_app (goodIn_of _ (by decide +kernel)) ggX4_lay_X9_clear
set_option maxRecDepth 20000 in
theorem ggX4_lay_X9_append : GoodIn wsX4_lay wsX9_append := goodIn_r _ [10, 6, 11, 12, 13, 4, 14, 15, 16, 17, 18, 19, 20, 21, 114, 115, 116, 117] rfl (by decide +kernel)
set_option maxRecDepth 20000 in
theorem gX4_lay_X9_append : GoodIn wsX4_lay (wsV RX4 34 RX9 yX9_append wsX9_append) := goodIn_app (goodIn_of _ (by decide +kernel)) ggX4_lay_X9_append
set_option maxRecDepth 20000 in
theorem ggX4_lay_X9_size : GoodIn wsX4_lay wsX9_size := goodIn_r _ [25, 6, 114, 115, 116, 117] rfl (by decide +kernel)
set_option maxRecDepth 20000 in
theorem gX4_lay_X9_size : GoodIn wsX4_lay (wsV RX4 38 RX9 yX9_size wsX9_size) := goodIn_app (goodIn_of _ (by decide +kernel)) ggX4_lay_X9_size
set_option maxRecDepth 20000 in
theorem ggX4_lay_X11_drawAfter : GoodIn wsX4_lay wsX11_drawAfter := goodIn_r _ [28, 29] rfl (by decide +kernel)
set_option maxRecDepth 20000 in
theorem gX4_lay_X11_drawAfter_n41 : GoodIn wsX4_lay (wsX11_drawAfter) := ggX4_lay_X11_drawAfter
set_option maxRecDepth 20000 in
theorem ggX4_lay_X4_learn : GoodIn wsX4_lay wsX4_learn := goodIn_r _ [34, 35, 36, 37, 38, 4, 39, 15, 40, 41, 42, 43, 6, 44, 45, 46, 47, 48, 49, 50, 51, 16, 17, 52, 53, 33, 54, 22, 23, 24, 25, 118, 119, 120, 121, 122, 114, 115, 116, 117] rfl (by decide +kernel)
set_option maxRecDepth 20000 in
theorem gX4_lay_X4_learn : GoodIn wsX4_lay (wsV RX4 45 RX4 yX4_learn wsX4_learn) := goodIn_app (goodIn_of _ (by decide +kernel)) ggX4_lay_X4_learn
set_option maxRecDepth 20000 in
theorem ggX4_lay_X4_gives : GoodIn wsX4_lay wsX4_gives := goodIn_r _ [58, 59, 60, 61, 62, 63, 64, 33, 65, 66, 67, 68, 69, 70, 35, 71, 72, 73, 74, 75, 76, 77, 78, 79, 80, 52, 53, 54, 118, 119, 120, 121, 122] rfl (by decide +kernel)
set_option maxRecDepth 20000 in
theorem gX4_lay_X4_gives : GoodIn wsX4_lay (wsV RX4 49 RX4 yX4_gives wsX4_gives) := goodIn_app (goodIn_of _ (by decide +kernel)) ggX4_lay_X4_gives
set_option maxRecDepth 20000 in
theorem ggX4_lay_X4_changeTown : GoodIn wsX4_lay wsX4_changeTown := goodIn_r _ [83, 84, 85, 86, 4, 87, 15, 88, 37, 38, 39, 40, 41, 42, 43, 6, 89, 90, 91, 92, 16, 17, 93, 94, 95, 96, 18, 19, 20, 21, 97, 98, 99, 100, 48, 49, 50, 51, 101, 45, 46, 47, 11, 12, 13, 14, 102, 103, 104, 105, 106, 107, 108, 109, 110, 111, 112, 113, 114, 115, 116, 117] rfl (by decide +kernel)
set_option maxRecDepth 20000 in
theorem gX4_lay_X4_changeTown : GoodIn wsX4_lay (va_wsS RX4 52 yX4_changeTown wsX4_changeTown) := goodIn_app (goodIn_of _ (by decide +kernel)) ggX4_lay_X4_changeTown
theorem dX4_lay_0 : decode cX4_lay 0 = .ok (.aload_n 1, 1) := kd_r kbX4_lay ki_69 rfl
theorem dX4_lay_1 : decode cX4_lay 1 = .ok (.invokevirtual 29, 3) := kd_r kbX4_lay ki_52 rfl
theorem dX4_lay_4 : decode cX4_lay 4 = .ok (.iconst 0, 1) := kd_r kbX4_lay ki_20 rfl
theorem dX4_lay_5 : decode cX4_lay 5 = .ok (.istore 5, 2) := kd_r kbX4_lay ki_133 rfl
theorem dX4_lay_7 : decode cX4_lay 7 = .ok (.iload 5, 2) := kd_r kbX4_lay ki_134 rfl
theorem dX4_lay_9 : decode cX4_lay 9 = .ok (.iload_n 2, 1) := kd_r kbX4_lay ki_11 rfl
theorem dX4_lay_10 : decode cX4_lay 10 = .ok (.sipush 1000, 3) := kd_r kbX4_lay ki_188 rfl
theorem dX4_lay_13 : decode cX4_lay 13 = .ok (.idiv, 1) := kd_r kbX4_lay ki_225 rfl
theorem dX4_lay_14 : decode cX4_lay 14 = .ok (.if_icmp .ge 21, 3) := kd_r kbX4_lay ki_226 rfl
theorem dX4_lay_17 : decode cX4_lay 17 = .ok (.aload_n 1, 1) := kd_r kbX4_lay ki_69 rfl
theorem dX4_lay_18 : decode cX4_lay 18 = .ok (.iload_n 2, 1) := kd_r kbX4_lay ki_11 rfl
theorem dX4_lay_19 : decode cX4_lay 19 = .ok (.sipush 1000, 3) := kd_r kbX4_lay ki_188 rfl
theorem dX4_lay_22 : decode cX4_lay 22 = .ok (.irem, 1) := kd_r kbX4_lay ki_227 rfl
theorem dX4_lay_23 : decode cX4_lay 23 = .ok (.bipush 100, 2) := kd_r kbX4_lay ki_228 rfl
theorem dX4_lay_25 : decode cX4_lay 25 = .ok (.iconst 0, 1) := kd_r kbX4_lay ki_20 rfl
theorem dX4_lay_26 : decode cX4_lay 26 = .ok (.invokevirtual 34, 3) := kd_r kbX4_lay ki_229 rfl
theorem dX4_lay_29 : decode cX4_lay 29 = .ok (.iinc 5 1, 3) := kd_r kbX4_lay ki_143 rfl
theorem dX4_lay_32 : decode cX4_lay 32 = .ok (.goto (-25), 3) := kd_r kbX4_lay ki_230 rfl
theorem dX4_lay_35 : decode cX4_lay 35 = .ok (.iload 4, 2) := kd_r kbX4_lay ki_57 rfl
theorem dX4_lay_37 : decode cX4_lay 37 = .ok (.istore 5, 2) := kd_r kbX4_lay ki_133 rfl
theorem dX4_lay_39 : decode cX4_lay 39 = .ok (.iconst 0, 1) := kd_r kbX4_lay ki_20 rfl
theorem dX4_lay_40 : decode cX4_lay 40 = .ok (.istore 6, 2) := kd_r kbX4_lay ki_199 rfl
theorem dX4_lay_42 : decode cX4_lay 42 = .ok (.iload 6, 2) := kd_r kbX4_lay ki_200 rfl
theorem dX4_lay_44 : decode cX4_lay 44 = .ok (.iload_n 3, 1) := kd_r kbX4_lay ki_55 rfl
theorem dX4_lay_45 : decode cX4_lay 45 = .ok (.if_icmp .ge 74, 3) := kd_r kbX4_lay ki_231 rfl
theorem dX4_lay_48 : decode cX4_lay 48 = .ok (.aload_n 1, 1) := kd_r kbX4_lay ki_69 rfl
theorem dX4_lay_49 : decode cX4_lay 49 = .ok (.invokevirtual 38, 3) := kd_r kbX4_lay ki_232 rfl
theorem dX4_lay_52 : decode cX4_lay 52 = .ok (.ifCond .le 67, 3) := kd_r kbX4_lay ki_233 rfl
theorem dX4_lay_55 : decode cX4_lay 55 = .ok (.iload 5, 2) := kd_r kbX4_lay ki_134 rfl
theorem dX4_lay_57 : decode cX4_lay 57 = .ok (.invokestatic 41, 3) := kd_r kbX4_lay ki_234 rfl
theorem dX4_lay_60 : decode cX4_lay 60 = .ok (.istore 5, 2) := kd_r kbX4_lay ki_133 rfl
theorem dX4_lay_62 : decode cX4_lay 62 = .ok (.iload 5, 2) := kd_r kbX4_lay ki_134 rfl
theorem dX4_lay_64 : decode cX4_lay 64 = .ok (.bipush 8, 2) := kd_r kbX4_lay ki_74 rfl
theorem dX4_lay_66 : decode cX4_lay 66 = .ok (.iushr, 1) := kd_r kbX4_lay ki_15 rfl
theorem dX4_lay_67 : decode cX4_lay 67 = .ok (.aload_n 1, 1) := kd_r kbX4_lay ki_69 rfl
theorem dX4_lay_68 : decode cX4_lay 68 = .ok (.invokevirtual 38, 3) := kd_r kbX4_lay ki_232 rfl
theorem dX4_lay_71 : decode cX4_lay 71 = .ok (.irem, 1) := kd_r kbX4_lay ki_227 rfl
theorem dX4_lay_72 : decode cX4_lay 72 = .ok (.istore 7, 2) := kd_r kbX4_lay ki_152 rfl
theorem dX4_lay_74 : decode cX4_lay 74 = .ok (.iload 5, 2) := kd_r kbX4_lay ki_134 rfl
theorem dX4_lay_76 : decode cX4_lay 76 = .ok (.invokestatic 41, 3) := kd_r kbX4_lay ki_234 rfl
theorem dX4_lay_79 : decode cX4_lay 79 = .ok (.istore 5, 2) := kd_r kbX4_lay ki_133 rfl
theorem dX4_lay_81 : decode cX4_lay 81 = .ok (.aload_n 0, 1) := kd_r kbX4_lay ki_0 rfl
theorem dX4_lay_82 : decode cX4_lay 82 = .ok (.aload_n 1, 1) := kd_r kbX4_lay ki_69 rfl
theorem dX4_lay_83 : decode cX4_lay 83 = .ok (.iload 7, 2) := kd_r kbX4_lay ki_153 rfl
theorem dX4_lay_85 : decode cX4_lay 85 = .ok (.iload 6, 2) := kd_r kbX4_lay ki_200 rfl
theorem dX4_lay_87 : decode cX4_lay 87 = .ok (.iload 5, 2) := kd_r kbX4_lay ki_134 rfl
theorem dX4_lay_89 : decode cX4_lay 89 = .ok (.bipush 8, 2) := kd_r kbX4_lay ki_74 rfl
theorem dX4_lay_91 : decode cX4_lay 91 = .ok (.iushr, 1) := kd_r kbX4_lay ki_15 rfl
theorem dX4_lay_92 : decode cX4_lay 92 = .ok (.bipush 100, 2) := kd_r kbX4_lay ki_228 rfl
theorem dX4_lay_94 : decode cX4_lay 94 = .ok (.irem, 1) := kd_r kbX4_lay ki_227 rfl
theorem dX4_lay_95 : decode cX4_lay 95 = .ok (.iload_n 2, 1) := kd_r kbX4_lay ki_11 rfl
theorem dX4_lay_96 : decode cX4_lay 96 = .ok (.sipush 1000, 3) := kd_r kbX4_lay ki_188 rfl
theorem dX4_lay_99 : decode cX4_lay 99 = .ok (.irem, 1) := kd_r kbX4_lay ki_227 rfl
theorem dX4_lay_100 : decode cX4_lay 100 = .ok (.invokevirtual 45, 3) := kd_r kbX4_lay ki_84 rfl
theorem dX4_lay_103 : decode cX4_lay 103 = .ok (.aload_n 1, 1) := kd_r kbX4_lay ki_69 rfl
theorem dX4_lay_104 : decode cX4_lay 104 = .ok (.iload 7, 2) := kd_r kbX4_lay ki_153 rfl
theorem dX4_lay_106 : decode cX4_lay 106 = .ok (.aload_n 0, 1) := kd_r kbX4_lay ki_0 rfl
theorem dX4_lay_107 : decode cX4_lay 107 = .ok (.invokevirtual 49, 3) := kd_r kbX4_lay ki_235 rfl
theorem dX4_lay_110 : decode cX4_lay 110 = .ok (.invokestatic 52, 3) := kd_r kbX4_lay ki_236 rfl
theorem dX4_lay_113 : decode cX4_lay 113 = .ok (.iinc 6 1, 3) := kd_r kbX4_lay ki_208 rfl
theorem dX4_lay_116 : decode cX4_lay 116 = .ok (.goto (-74), 3) := kd_r kbX4_lay ki_237 rfl
theorem dX4_lay_119 : decode cX4_lay 119 = .ok (.return_, 1) := kd_r kbX4_lay ki_5 rfl
set_option maxRecDepth 20000 in
theorem ggX4_changeTown_X9_join : GoodIn wsX4_changeTown wsX9_join := goodIn_r _ [5, 6, 7, 8, 9, 4, 10, 11, 12, 13, 14, 15, 16, 17, 18, 19, 20, 21, 58, 59, 60, 61] rfl (by decide +kernel)
set_option maxRecDepth 20000 in
theorem gX4_changeTown_X9_join : GoodIn wsX4_changeTown (wsV RX4 56 RX9 yX9_join wsX9_join) := goodIn_app (goodIn_of _ (by decide +kernel)) ggX4_changeTown_X9_join
set_option maxRecDepth 20000 in
theorem ggX4_changeTown_X9_part : GoodIn wsX4_changeTown wsX9_part := goodIn_r _ [25, 7, 8, 9, 4, 10, 6, 11, 12, 13, 14, 15, 26, 27, 28, 29, 30, 31, 32, 33, 34, 35, 36, 37, 20, 21, 38, 39, 40, 41, 42, 43, 44, 45, 58, 59, 60, 61] rfl (by decide +kernel)
set_option maxRecDepth 20000 in
theorem gX4_changeTown_X9_part : GoodIn wsX4_changeTown (wsV RX4 60 RX9 yX9_part wsX9_part) := goodIn_app (goodIn_of _ (by decide +kernel)) ggX4_changeTown_X9_part
set_option maxRecDepth 20000 in
theorem ggX4_changeTown_X9_stepAside : GoodIn wsX4_changeTown wsX9_stepAside := goodIn_r _ [49, 50, 51, 52, 53, 54, 55, 56, 4, 57, 21, 11, 12, 13, 14, 15, 30, 31, 32, 33, 34, 35, 36, 37, 6, 20, 58, 59, 60, 61] rfl (by decide +kernel)
set_option maxRecDepth 20000 in
theorem gX4_changeTown_X9_stepAside : GoodIn wsX4_changeTown (wsV RX4 63 RX9 yX9_stepAside wsX9_stepAside) := goodIn_app (goodIn_of _ (by decide +kernel)) ggX4_changeTown_X9_stepAside
theorem dX4_changeTown_0 : decode cX4_changeTown 0 = .ok (.iload_n 2, 1) := kd_r kbX4_changeTown ki_11 rfl
theorem dX4_changeTown_1 : decode cX4_changeTown 1 = .ok (.tableswitch 51 1 3 #[27, 35, 43], 27) := by decide +kernel
theorem dX4_changeTown_28 : decode cX4_changeTown 28 = .ok (.aload_n 0, 1) := kd_r kbX4_changeTown ki_0 rfl
theorem dX4_changeTown_29 : decode cX4_changeTown 29 = .ok (.iload_n 1, 1) := kd_r kbX4_changeTown ki_8 rfl
theorem dX4_changeTown_30 : decode cX4_changeTown 30 = .ok (.invokevirtual 56, 3) := kd_r kbX4_changeTown ki_101 rfl
theorem dX4_changeTown_33 : decode cX4_changeTown 33 = .ok (.goto 19, 3) := kd_r kbX4_changeTown ki_238 rfl
theorem dX4_changeTown_36 : decode cX4_changeTown 36 = .ok (.aload_n 0, 1) := kd_r kbX4_changeTown ki_0 rfl
theorem dX4_changeTown_37 : decode cX4_changeTown 37 = .ok (.iload_n 1, 1) := kd_r kbX4_changeTown ki_8 rfl
theorem dX4_changeTown_38 : decode cX4_changeTown 38 = .ok (.invokevirtual 60, 3) := kd_r kbX4_changeTown ki_239 rfl
theorem dX4_changeTown_41 : decode cX4_changeTown 41 = .ok (.goto 11, 3) := kd_r kbX4_changeTown ki_240 rfl
theorem dX4_changeTown_44 : decode cX4_changeTown 44 = .ok (.aload_n 0, 1) := kd_r kbX4_changeTown ki_0 rfl
theorem dX4_changeTown_45 : decode cX4_changeTown 45 = .ok (.iload_n 1, 1) := kd_r kbX4_changeTown ki_8 rfl
theorem dX4_changeTown_46 : decode cX4_changeTown 46 = .ok (.invokevirtual 63, 3) := kd_r kbX4_changeTown ki_241 rfl
theorem dX4_changeTown_49 : decode cX4_changeTown 49 = .ok (.goto 3, 3) := kd_r kbX4_changeTown ki_242 rfl
theorem dX4_changeTown_52 : decode cX4_changeTown 52 = .ok (.return_, 1) := kd_r kbX4_changeTown ki_5 rfl
set_option maxRecDepth 20000 in
theorem ggX4_learn_X9_width : GoodIn wsX4_learn wsX9_width := goodIn_r _ [6, 7, 8, 9, 10, 5, 11, 12, 36, 37, 38, 39] rfl (by decide +kernel)
set_option maxRecDepth 20000 in
theorem gX4_learn_X9_width : GoodIn wsX4_learn (wsV RX4 66 RX9 yX9_width wsX9_width) := goodIn_app (goodIn_of _ (by decide +kernel)) ggX4_learn_X9_width
set_option maxRecDepth 20000 in
theorem ggX4_learn_X9_fact : GoodIn wsX4_learn wsX9_fact := goodIn_r _ [16, 8, 9, 10, 5, 11, 12, 17, 18, 19, 20, 7, 21, 22, 36, 37, 38, 39] rfl (by decide +kernel)
set_option maxRecDepth 20000 in
theorem gX4_learn_X9_fact : GoodIn wsX4_learn (wsV RX4 69 RX9 yX9_fact wsX9_fact) := goodIn_app (goodIn_of _ (by decide +kernel)) ggX4_learn_X9_fact
set_option maxRecDepth 20000 in
theorem ggX4_learn_X4_quotient : GoodIn wsX4_learn wsX4_quotient := goodIn_r _ [26] rfl (by decide +kernel)
set_option maxRecDepth 20000 in
theorem gX4_learn_X4_quotient : GoodIn wsX4_learn (va_wsS RX4 73 yX4_quotient wsX4_quotient) := goodIn_app (goodIn_of _ (by decide +kernel)) ggX4_learn_X4_quotient
set_option maxRecDepth 20000 in
theorem ggX4_learn_X9_size : GoodIn wsX4_learn wsX9_size := goodIn_r _ [30, 12, 36, 37, 38, 39] rfl (by decide +kernel)
set_option maxRecDepth 20000 in
theorem gX4_learn_X9_size : GoodIn wsX4_learn (wsV RX4 38 RX9 yX9_size wsX9_size) := goodIn_app (goodIn_of _ (by decide +kernel)) ggX4_learn_X9_size
theorem dX4_learn_0 : decode cX4_learn 0 = .ok (.aload_n 0, 1) := kd_r kbX4_learn ki_0 rfl
theorem dX4_learn_1 : decode cX4_learn 1 = .ok (.getfield 19, 3) := kd_r kbX4_learn ki_56 rfl
theorem dX4_learn_4 : decode cX4_learn 4 = .ok (.iconst 0, 1) := kd_r kbX4_learn ki_20 rfl
theorem dX4_learn_5 : decode cX4_learn 5 = .ok (.aload_n 1, 1) := kd_r kbX4_learn ki_69 rfl
theorem dX4_learn_6 : decode cX4_learn 6 = .ok (.iload_n 2, 1) := kd_r kbX4_learn ki_11 rfl
theorem dX4_learn_7 : decode cX4_learn 7 = .ok (.invokevirtual 66, 3) := kd_r kbX4_learn ki_243 rfl
theorem dX4_learn_10 : decode cX4_learn 10 = .ok (.iastore, 1) := kd_r kbX4_learn ki_28 rfl
theorem dX4_learn_11 : decode cX4_learn 11 = .ok (.aload_n 0, 1) := kd_r kbX4_learn ki_0 rfl
theorem dX4_learn_12 : decode cX4_learn 12 = .ok (.getfield 19, 3) := kd_r kbX4_learn ki_56 rfl
theorem dX4_learn_15 : decode cX4_learn 15 = .ok (.iconst 1, 1) := kd_r kbX4_learn ki_16 rfl
theorem dX4_learn_16 : decode cX4_learn 16 = .ok (.aload_n 1, 1) := kd_r kbX4_learn ki_69 rfl
theorem dX4_learn_17 : decode cX4_learn 17 = .ok (.iload_n 2, 1) := kd_r kbX4_learn ki_11 rfl
theorem dX4_learn_18 : decode cX4_learn 18 = .ok (.iconst 1, 1) := kd_r kbX4_learn ki_16 rfl
theorem dX4_learn_19 : decode cX4_learn 19 = .ok (.iadd, 1) := kd_r kbX4_learn ki_30 rfl
theorem dX4_learn_20 : decode cX4_learn 20 = .ok (.invokevirtual 66, 3) := kd_r kbX4_learn ki_243 rfl
theorem dX4_learn_23 : decode cX4_learn 23 = .ok (.iastore, 1) := kd_r kbX4_learn ki_28 rfl
theorem dX4_learn_24 : decode cX4_learn 24 = .ok (.aload_n 0, 1) := kd_r kbX4_learn ki_0 rfl
theorem dX4_learn_25 : decode cX4_learn 25 = .ok (.getfield 19, 3) := kd_r kbX4_learn ki_56 rfl
theorem dX4_learn_28 : decode cX4_learn 28 = .ok (.iconst 2, 1) := kd_r kbX4_learn ki_244 rfl
theorem dX4_learn_29 : decode cX4_learn 29 = .ok (.aload_n 1, 1) := kd_r kbX4_learn ki_69 rfl
theorem dX4_learn_30 : decode cX4_learn 30 = .ok (.iconst 1, 1) := kd_r kbX4_learn ki_16 rfl
theorem dX4_learn_31 : decode cX4_learn 31 = .ok (.iload_n 2, 1) := kd_r kbX4_learn ki_11 rfl
theorem dX4_learn_32 : decode cX4_learn 32 = .ok (.invokevirtual 69, 3) := kd_r kbX4_learn ki_245 rfl
theorem dX4_learn_35 : decode cX4_learn 35 = .ok (.iastore, 1) := kd_r kbX4_learn ki_28 rfl
theorem dX4_learn_36 : decode cX4_learn 36 = .ok (.aload_n 0, 1) := kd_r kbX4_learn ki_0 rfl
theorem dX4_learn_37 : decode cX4_learn 37 = .ok (.getfield 19, 3) := kd_r kbX4_learn ki_56 rfl
theorem dX4_learn_40 : decode cX4_learn 40 = .ok (.iconst 3, 1) := kd_r kbX4_learn ki_246 rfl
theorem dX4_learn_41 : decode cX4_learn 41 = .ok (.iload_n 3, 1) := kd_r kbX4_learn ki_55 rfl
theorem dX4_learn_42 : decode cX4_learn 42 = .ok (.iastore, 1) := kd_r kbX4_learn ki_28 rfl
theorem dX4_learn_43 : decode cX4_learn 43 = .ok (.aload_n 0, 1) := kd_r kbX4_learn ki_0 rfl
theorem dX4_learn_44 : decode cX4_learn 44 = .ok (.getfield 19, 3) := kd_r kbX4_learn ki_56 rfl
theorem dX4_learn_47 : decode cX4_learn 47 = .ok (.iconst 4, 1) := kd_r kbX4_learn ki_247 rfl
theorem dX4_learn_48 : decode cX4_learn 48 = .ok (.iload 4, 2) := kd_r kbX4_learn ki_57 rfl
theorem dX4_learn_50 : decode cX4_learn 50 = .ok (.iastore, 1) := kd_r kbX4_learn ki_28 rfl
theorem dX4_learn_51 : decode cX4_learn 51 = .ok (.aload_n 0, 1) := kd_r kbX4_learn ki_0 rfl
theorem dX4_learn_52 : decode cX4_learn 52 = .ok (.getfield 19, 3) := kd_r kbX4_learn ki_56 rfl
theorem dX4_learn_55 : decode cX4_learn 55 = .ok (.iconst 5, 1) := kd_r kbX4_learn ki_79 rfl
theorem dX4_learn_56 : decode cX4_learn 56 = .ok (.aload_n 1, 1) := kd_r kbX4_learn ki_69 rfl
theorem dX4_learn_57 : decode cX4_learn 57 = .ok (.iload_n 2, 1) := kd_r kbX4_learn ki_11 rfl
theorem dX4_learn_58 : decode cX4_learn 58 = .ok (.invokevirtual 66, 3) := kd_r kbX4_learn ki_243 rfl
theorem dX4_learn_61 : decode cX4_learn 61 = .ok (.iload 5, 2) := kd_r kbX4_learn ki_134 rfl
theorem dX4_learn_63 : decode cX4_learn 63 = .ok (.invokestatic 73, 3) := kd_r kbX4_learn ki_248 rfl
theorem dX4_learn_66 : decode cX4_learn 66 = .ok (.iastore, 1) := kd_r kbX4_learn ki_28 rfl
theorem dX4_learn_67 : decode cX4_learn 67 = .ok (.aload_n 0, 1) := kd_r kbX4_learn ki_0 rfl
theorem dX4_learn_68 : decode cX4_learn 68 = .ok (.getfield 19, 3) := kd_r kbX4_learn ki_56 rfl
theorem dX4_learn_71 : decode cX4_learn 71 = .ok (.bipush 6, 2) := kd_r kbX4_learn ki_2 rfl
theorem dX4_learn_73 : decode cX4_learn 73 = .ok (.iload_n 2, 1) := kd_r kbX4_learn ki_11 rfl
theorem dX4_learn_74 : decode cX4_learn 74 = .ok (.iastore, 1) := kd_r kbX4_learn ki_28 rfl
theorem dX4_learn_75 : decode cX4_learn 75 = .ok (.aload_n 0, 1) := kd_r kbX4_learn ki_0 rfl
theorem dX4_learn_76 : decode cX4_learn 76 = .ok (.getfield 19, 3) := kd_r kbX4_learn ki_56 rfl
theorem dX4_learn_79 : decode cX4_learn 79 = .ok (.bipush 7, 2) := kd_r kbX4_learn ki_249 rfl
theorem dX4_learn_81 : decode cX4_learn 81 = .ok (.aload_n 1, 1) := kd_r kbX4_learn ki_69 rfl
theorem dX4_learn_82 : decode cX4_learn 82 = .ok (.invokevirtual 38, 3) := kd_r kbX4_learn ki_232 rfl
theorem dX4_learn_85 : decode cX4_learn 85 = .ok (.iastore, 1) := kd_r kbX4_learn ki_28 rfl
theorem dX4_learn_86 : decode cX4_learn 86 = .ok (.return_, 1) := kd_r kbX4_learn ki_5 rfl
set_option maxRecDepth 20000 in
theorem ggX4_gives_X4_pop : GoodIn wsX4_gives wsX4_pop := goodIn_r _ [8, 1, 9, 28, 29, 30, 31, 32] rfl (by decide +kernel)
set_option maxRecDepth 20000 in
theorem gX4_gives_X4_pop : GoodIn wsX4_gives (wsV RX4 79 RX4 yX4_pop wsX4_pop) := goodIn_app (goodIn_of _ (by decide +kernel)) ggX4_gives_X4_pop
set_option maxRecDepth 20000 in
theorem ggX4_gives_X4_work : GoodIn wsX4_gives wsX4_work := goodIn_r _ [13, 14, 15, 16, 17, 7, 18, 1, 9, 4, 5, 6, 8, 19, 20, 21, 22, 23, 24, 25, 26, 27, 28, 29, 30, 31, 32] rfl (by decide +kernel)
set_option maxRecDepth 20000 in
theorem gX4_gives_X4_work : GoodIn wsX4_gives (wsV RX4 82 RX4 yX4_work wsX4_work) := goodIn_app (goodIn_of _ (by decide +kernel)) ggX4_gives_X4_work
theorem dX4_gives_0 : decode cX4_gives 0 = .ok (.aload_n 0, 1) := kd_r kbX4_gives ki_0 rfl
theorem dX4_gives_1 : decode cX4_gives 1 = .ok (.iconst 0, 1) := kd_r kbX4_gives ki_20 rfl
theorem dX4_gives_2 : decode cX4_gives 2 = .ok (.putfield 76, 3) := kd_r kbX4_gives ki_250 rfl
theorem dX4_gives_5 : decode cX4_gives 5 = .ok (.iconst 0, 1) := kd_r kbX4_gives ki_20 rfl
theorem dX4_gives_6 : decode cX4_gives 6 = .ok (.istore_n 1, 1) := kd_r kbX4_gives ki_60 rfl
theorem dX4_gives_7 : decode cX4_gives 7 = .ok (.iconst 0, 1) := kd_r kbX4_gives ki_20 rfl
theorem dX4_gives_8 : decode cX4_gives 8 = .ok (.istore_n 2, 1) := kd_r kbX4_gives ki_32 rfl
theorem dX4_gives_9 : decode cX4_gives 9 = .ok (.iload_n 2, 1) := kd_r kbX4_gives ki_11 rfl
theorem dX4_gives_10 : decode cX4_gives 10 = .ok (.aload_n 0, 1) := kd_r kbX4_gives ki_0 rfl
theorem dX4_gives_11 : decode cX4_gives 11 = .ok (.getfield 25, 3) := kd_r kbX4_gives ki_224 rfl
theorem dX4_gives_14 : decode cX4_gives 14 = .ok (.if_icmp .ge 73, 3) := kd_r kbX4_gives ki_251 rfl
theorem dX4_gives_17 : decode cX4_gives 17 = .ok (.aload_n 0, 1) := kd_r kbX4_gives ki_0 rfl
theorem dX4_gives_18 : decode cX4_gives 18 = .ok (.getfield 11, 3) := kd_r kbX4_gives ki_86 rfl
theorem dX4_gives_21 : decode cX4_gives 21 = .ok (.iload_n 2, 1) := kd_r kbX4_gives ki_11 rfl
theorem dX4_gives_22 : decode cX4_gives 22 = .ok (.iaload, 1) := kd_r kbX4_gives ki_14 rfl
theorem dX4_gives_23 : decode cX4_gives 23 = .ok (.istore_n 3, 1) := kd_r kbX4_gives ki_108 rfl
theorem dX4_gives_24 : decode cX4_gives 24 = .ok (.iload_n 1, 1) := kd_r kbX4_gives ki_8 rfl
theorem dX4_gives_25 : decode cX4_gives 25 = .ok (.ifCond .eq 18, 3) := kd_r kbX4_gives ki_252 rfl
theorem dX4_gives_28 : decode cX4_gives 28 = .ok (.iload_n 3, 1) := kd_r kbX4_gives ki_55 rfl
theorem dX4_gives_29 : decode cX4_gives 29 = .ok (.bipush 59, 2) := kd_r kbX4_gives ki_253 rfl
theorem dX4_gives_31 : decode cX4_gives 31 = .ok (.if_icmp .eq 7, 3) := kd_r kbX4_gives ki_254 rfl
theorem dX4_gives_34 : decode cX4_gives 34 = .ok (.iconst 1, 1) := kd_r kbX4_gives ki_16 rfl
theorem dX4_gives_35 : decode cX4_gives 35 = .ok (.goto 4, 3) := kd_r kbX4_gives ki_19 rfl
theorem dX4_gives_38 : decode cX4_gives 38 = .ok (.iconst 0, 1) := kd_r kbX4_gives ki_20 rfl
theorem dX4_gives_39 : decode cX4_gives 39 = .ok (.istore_n 1, 1) := kd_r kbX4_gives ki_60 rfl
theorem dX4_gives_40 : decode cX4_gives 40 = .ok (.goto 41, 3) := kd_r kbX4_gives ki_255 rfl
theorem dX4_gives_43 : decode cX4_gives 43 = .ok (.iload_n 3, 1) := kd_r kbX4_gives ki_55 rfl
theorem dX4_gives_44 : decode cX4_gives 44 = .ok (.bipush 59, 2) := kd_r kbX4_gives ki_253 rfl
theorem dX4_gives_46 : decode cX4_gives 46 = .ok (.if_icmp .ne 8, 3) := kd_r kbX4_gives ki_256 rfl
theorem dX4_gives_49 : decode cX4_gives 49 = .ok (.aload_n 0, 1) := kd_r kbX4_gives ki_0 rfl
theorem dX4_gives_50 : decode cX4_gives 50 = .ok (.invokevirtual 79, 3) := kd_r kbX4_gives ki_257 rfl
theorem dX4_gives_53 : decode cX4_gives 53 = .ok (.ireturn, 1) := kd_r kbX4_gives ki_7 rfl
theorem dX4_gives_54 : decode cX4_gives 54 = .ok (.iload_n 3, 1) := kd_r kbX4_gives ki_55 rfl
theorem dX4_gives_55 : decode cX4_gives 55 = .ok (.bipush 63, 2) := kd_r kbX4_gives ki_258 rfl
theorem dX4_gives_57 : decode cX4_gives 57 = .ok (.if_icmp .ne 19, 3) := kd_r kbX4_gives ki_259 rfl
theorem dX4_gives_60 : decode cX4_gives 60 = .ok (.aload_n 0, 1) := kd_r kbX4_gives ki_0 rfl
theorem dX4_gives_61 : decode cX4_gives 61 = .ok (.invokevirtual 79, 3) := kd_r kbX4_gives ki_257 rfl
theorem dX4_gives_64 : decode cX4_gives 64 = .ok (.ifCond .ne 7, 3) := kd_r kbX4_gives ki_260 rfl
theorem dX4_gives_67 : decode cX4_gives 67 = .ok (.iconst 1, 1) := kd_r kbX4_gives ki_16 rfl
theorem dX4_gives_68 : decode cX4_gives 68 = .ok (.goto 4, 3) := kd_r kbX4_gives ki_19 rfl
theorem dX4_gives_71 : decode cX4_gives 71 = .ok (.iconst 0, 1) := kd_r kbX4_gives ki_20 rfl
theorem dX4_gives_72 : decode cX4_gives 72 = .ok (.istore_n 1, 1) := kd_r kbX4_gives ki_60 rfl
theorem dX4_gives_73 : decode cX4_gives 73 = .ok (.goto 8, 3) := kd_r kbX4_gives ki_261 rfl
theorem dX4_gives_76 : decode cX4_gives 76 = .ok (.aload_n 0, 1) := kd_r kbX4_gives ki_0 rfl
theorem dX4_gives_77 : decode cX4_gives 77 = .ok (.iload_n 3, 1) := kd_r kbX4_gives ki_55 rfl
theorem dX4_gives_78 : decode cX4_gives 78 = .ok (.invokevirtual 82, 3) := kd_r kbX4_gives ki_262 rfl
theorem dX4_gives_81 : decode cX4_gives 81 = .ok (.iinc 2 1, 3) := kd_r kbX4_gives ki_37 rfl
theorem dX4_gives_84 : decode cX4_gives 84 = .ok (.goto (-75), 3) := kd_r kbX4_gives ki_263 rfl
theorem dX4_gives_87 : decode cX4_gives 87 = .ok (.iconst 0, 1) := kd_r kbX4_gives ki_20 rfl
theorem dX4_gives_88 : decode cX4_gives 88 = .ok (.ireturn, 1) := kd_r kbX4_gives ki_7 rfl
set_option maxRecDepth 20000 in
theorem ggX4_work_X4_push : GoodIn wsX4_work wsX4_push := goodIn_r _ [6, 7, 8, 22, 23, 24, 25, 26] rfl (by decide +kernel)
set_option maxRecDepth 20000 in
theorem gX4_work_X4_push : GoodIn wsX4_work (wsV RX4 85 RX4 yX4_push wsX4_push) := goodIn_app (goodIn_of _ (by decide +kernel)) ggX4_work_X4_push
set_option maxRecDepth 20000 in
theorem ggX4_work_X4_pop : GoodIn wsX4_work wsX4_pop := goodIn_r _ [12, 7, 8, 22, 23, 24, 25, 26] rfl (by decide +kernel)
set_option maxRecDepth 20000 in
theorem gX4_work_X4_pop : GoodIn wsX4_work (wsV RX4 79 RX4 yX4_pop wsX4_pop) := goodIn_app (goodIn_of _ (by decide +kernel)) ggX4_work_X4_pop
set_option maxRecDepth 20000 in
theorem ggX4_work_X4_truth : GoodIn wsX4_work wsX4_truth := goodIn_r _ [15] rfl (by decide +kernel)
set_option maxRecDepth 20000 in
theorem gX4_work_X4_truth : GoodIn wsX4_work (va_wsS RX4 88 yX4_truth wsX4_truth) := goodIn_app (goodIn_of _ (by decide +kernel)) ggX4_work_X4_truth
set_option maxRecDepth 20000 in
theorem ggX4_work_X4_join : GoodIn wsX4_work wsX4_join := goodIn_r _ [18, 13, 14, 5, 15, 19, 20, 21] rfl (by decide +kernel)
set_option maxRecDepth 20000 in
theorem gX4_work_X4_join : GoodIn wsX4_work (va_wsS RX4 92 yX4_join wsX4_join) := goodIn_app (goodIn_of _ (by decide +kernel)) ggX4_work_X4_join
theorem dX4_work_0 : decode cX4_work 0 = .ok (.iload_n 1, 1) := kd_r kbX4_work ki_8 rfl
theorem dX4_work_1 : decode cX4_work 1 = .ok (.sipush 256, 3) := kd_r kbX4_work ki_264 rfl
theorem dX4_work_4 : decode cX4_work 4 = .ok (.if_icmp .lt 15, 3) := kd_r kbX4_work ki_265 rfl
theorem dX4_work_7 : decode cX4_work 7 = .ok (.aload_n 0, 1) := kd_r kbX4_work ki_0 rfl
theorem dX4_work_8 : decode cX4_work 8 = .ok (.iload_n 1, 1) := kd_r kbX4_work ki_8 rfl
theorem dX4_work_9 : decode cX4_work 9 = .ok (.sipush 256, 3) := kd_r kbX4_work ki_264 rfl
theorem dX4_work_12 : decode cX4_work 12 = .ok (.isub, 1) := kd_r kbX4_work ki_50 rfl
theorem dX4_work_13 : decode cX4_work 13 = .ok (.invokevirtual 85, 3) := kd_r kbX4_work ki_115 rfl
theorem dX4_work_16 : decode cX4_work 16 = .ok (.goto 93, 3) := kd_r kbX4_work ki_266 rfl
theorem dX4_work_19 : decode cX4_work 19 = .ok (.iload_n 1, 1) := kd_r kbX4_work ki_8 rfl
theorem dX4_work_20 : decode cX4_work 20 = .ok (.ifCond .lt 25, 3) := kd_r kbX4_work ki_267 rfl
theorem dX4_work_23 : decode cX4_work 23 = .ok (.iload_n 1, 1) := kd_r kbX4_work ki_8 rfl
theorem dX4_work_24 : decode cX4_work 24 = .ok (.aload_n 0, 1) := kd_r kbX4_work ki_0 rfl
theorem dX4_work_25 : decode cX4_work 25 = .ok (.getfield 19, 3) := kd_r kbX4_work ki_56 rfl
theorem dX4_work_28 : decode cX4_work 28 = .ok (.arraylength, 1) := kd_r kbX4_work ki_33 rfl
theorem dX4_work_29 : decode cX4_work 29 = .ok (.if_icmp .ge 16, 3) := kd_r kbX4_work ki_268 rfl
theorem dX4_work_32 : decode cX4_work 32 = .ok (.aload_n 0, 1) := kd_r kbX4_work ki_0 rfl
theorem dX4_work_33 : decode cX4_work 33 = .ok (.aload_n 0, 1) := kd_r kbX4_work ki_0 rfl
theorem dX4_work_34 : decode cX4_work 34 = .ok (.getfield 19, 3) := kd_r kbX4_work ki_56 rfl
theorem dX4_work_37 : decode cX4_work 37 = .ok (.iload_n 1, 1) := kd_r kbX4_work ki_8 rfl
theorem dX4_work_38 : decode cX4_work 38 = .ok (.iaload, 1) := kd_r kbX4_work ki_14 rfl
theorem dX4_work_39 : decode cX4_work 39 = .ok (.invokevirtual 85, 3) := kd_r kbX4_work ki_115 rfl
theorem dX4_work_42 : decode cX4_work 42 = .ok (.goto 67, 3) := kd_r kbX4_work ki_269 rfl
theorem dX4_work_45 : decode cX4_work 45 = .ok (.iload_n 1, 1) := kd_r kbX4_work ki_8 rfl
theorem dX4_work_46 : decode cX4_work 46 = .ok (.bipush 33, 2) := kd_r kbX4_work ki_270 rfl
theorem dX4_work_48 : decode cX4_work 48 = .ok (.if_icmp .ne 25, 3) := kd_r kbX4_work ki_271 rfl
theorem dX4_work_51 : decode cX4_work 51 = .ok (.aload_n 0, 1) := kd_r kbX4_work ki_0 rfl
theorem dX4_work_52 : decode cX4_work 52 = .ok (.aload_n 0, 1) := kd_r kbX4_work ki_0 rfl
theorem dX4_work_53 : decode cX4_work 53 = .ok (.invokevirtual 79, 3) := kd_r kbX4_work ki_257 rfl
theorem dX4_work_56 : decode cX4_work 56 = .ok (.ifCond .ne 7, 3) := kd_r kbX4_work ki_260 rfl
theorem dX4_work_59 : decode cX4_work 59 = .ok (.iconst 1, 1) := kd_r kbX4_work ki_16 rfl
theorem dX4_work_60 : decode cX4_work 60 = .ok (.goto 4, 3) := kd_r kbX4_work ki_19 rfl
theorem dX4_work_63 : decode cX4_work 63 = .ok (.iconst 0, 1) := kd_r kbX4_work ki_20 rfl
theorem dX4_work_64 : decode cX4_work 64 = .ok (.invokestatic 88, 3) := kd_r kbX4_work ki_272 rfl
theorem dX4_work_67 : decode cX4_work 67 = .ok (.invokevirtual 85, 3) := kd_r kbX4_work ki_115 rfl
theorem dX4_work_70 : decode cX4_work 70 = .ok (.goto 39, 3) := kd_r kbX4_work ki_273 rfl
theorem dX4_work_73 : decode cX4_work 73 = .ok (.iload_n 1, 1) := kd_r kbX4_work ki_8 rfl
theorem dX4_work_74 : decode cX4_work 74 = .ok (.bipush 126, 2) := kd_r kbX4_work ki_274 rfl
theorem dX4_work_76 : decode cX4_work 76 = .ok (.if_icmp .ne 15, 3) := kd_r kbX4_work ki_275 rfl
theorem dX4_work_79 : decode cX4_work 79 = .ok (.aload_n 0, 1) := kd_r kbX4_work ki_0 rfl
theorem dX4_work_80 : decode cX4_work 80 = .ok (.aload_n 0, 1) := kd_r kbX4_work ki_0 rfl
theorem dX4_work_81 : decode cX4_work 81 = .ok (.invokevirtual 79, 3) := kd_r kbX4_work ki_257 rfl
theorem dX4_work_84 : decode cX4_work 84 = .ok (.ineg, 1) := kd_r kbX4_work ki_276 rfl
theorem dX4_work_85 : decode cX4_work 85 = .ok (.invokevirtual 85, 3) := kd_r kbX4_work ki_115 rfl
theorem dX4_work_88 : decode cX4_work 88 = .ok (.goto 21, 3) := kd_r kbX4_work ki_277 rfl
theorem dX4_work_91 : decode cX4_work 91 = .ok (.aload_n 0, 1) := kd_r kbX4_work ki_0 rfl
theorem dX4_work_92 : decode cX4_work 92 = .ok (.invokevirtual 79, 3) := kd_r kbX4_work ki_257 rfl
theorem dX4_work_95 : decode cX4_work 95 = .ok (.istore_n 2, 1) := kd_r kbX4_work ki_32 rfl
theorem dX4_work_96 : decode cX4_work 96 = .ok (.aload_n 0, 1) := kd_r kbX4_work ki_0 rfl
theorem dX4_work_97 : decode cX4_work 97 = .ok (.iload_n 1, 1) := kd_r kbX4_work ki_8 rfl
theorem dX4_work_98 : decode cX4_work 98 = .ok (.aload_n 0, 1) := kd_r kbX4_work ki_0 rfl
theorem dX4_work_99 : decode cX4_work 99 = .ok (.invokevirtual 79, 3) := kd_r kbX4_work ki_257 rfl
theorem dX4_work_102 : decode cX4_work 102 = .ok (.iload_n 2, 1) := kd_r kbX4_work ki_11 rfl
theorem dX4_work_103 : decode cX4_work 103 = .ok (.invokestatic 92, 3) := kd_r kbX4_work ki_278 rfl
theorem dX4_work_106 : decode cX4_work 106 = .ok (.invokevirtual 85, 3) := kd_r kbX4_work ki_115 rfl
theorem dX4_work_109 : decode cX4_work 109 = .ok (.return_, 1) := kd_r kbX4_work ki_5 rfl
set_option maxRecDepth 20000 in
theorem ggX4_join_X4_truth : GoodIn wsX4_join wsX4_truth := goodIn_r _ [4] rfl (by decide +kernel)
set_option maxRecDepth 20000 in
theorem gX4_join_X4_truth : GoodIn wsX4_join (va_wsS RX4 88 yX4_truth wsX4_truth) := goodIn_app (goodIn_of _ (by decide +kernel)) ggX4_join_X4_truth
set_option maxRecDepth 20000 in
theorem ggX4_join_X4_quotient : GoodIn wsX4_join wsX4_quotient := goodIn_r _ [7] rfl (by decide +kernel)
set_option maxRecDepth 20000 in
theorem gX4_join_X4_quotient : GoodIn wsX4_join (va_wsS RX4 73 yX4_quotient wsX4_quotient) := goodIn_app (goodIn_of _ (by decide +kernel)) ggX4_join_X4_quotient
theorem dX4_join_0 : decode cX4_join 0 = .ok (.iload_n 0, 1) := kd_r kbX4_join ki_40 rfl
theorem dX4_join_1 : decode cX4_join 1 = .ok (.lookupswitch 197 #[(37, 185), (38, 108), (42, 175), (43, 167), (45, 171), (47, 179), (60, 125), (61, 139), (62, 153), (124, 91)], 91) := by decide +kernel
theorem dX4_join_92 : decode cX4_join 92 = .ok (.iload_n 1, 1) := kd_r kbX4_join ki_8 rfl
theorem dX4_join_93 : decode cX4_join 93 = .ok (.ifCond .ne 7, 3) := kd_r kbX4_join ki_260 rfl
theorem dX4_join_96 : decode cX4_join 96 = .ok (.iload_n 2, 1) := kd_r kbX4_join ki_11 rfl
theorem dX4_join_97 : decode cX4_join 97 = .ok (.ifCond .eq 7, 3) := kd_r kbX4_join ki_18 rfl
theorem dX4_join_100 : decode cX4_join 100 = .ok (.iconst 1, 1) := kd_r kbX4_join ki_16 rfl
theorem dX4_join_101 : decode cX4_join 101 = .ok (.goto 4, 3) := kd_r kbX4_join ki_19 rfl
theorem dX4_join_104 : decode cX4_join 104 = .ok (.iconst 0, 1) := kd_r kbX4_join ki_20 rfl
theorem dX4_join_105 : decode cX4_join 105 = .ok (.invokestatic 88, 3) := kd_r kbX4_join ki_272 rfl
theorem dX4_join_108 : decode cX4_join 108 = .ok (.ireturn, 1) := kd_r kbX4_join ki_7 rfl
theorem dX4_join_109 : decode cX4_join 109 = .ok (.iload_n 1, 1) := kd_r kbX4_join ki_8 rfl
theorem dX4_join_110 : decode cX4_join 110 = .ok (.ifCond .eq 11, 3) := kd_r kbX4_join ki_279 rfl
theorem dX4_join_113 : decode cX4_join 113 = .ok (.iload_n 2, 1) := kd_r kbX4_join ki_11 rfl
theorem dX4_join_114 : decode cX4_join 114 = .ok (.ifCond .eq 7, 3) := kd_r kbX4_join ki_18 rfl
theorem dX4_join_117 : decode cX4_join 117 = .ok (.iconst 1, 1) := kd_r kbX4_join ki_16 rfl
theorem dX4_join_118 : decode cX4_join 118 = .ok (.goto 4, 3) := kd_r kbX4_join ki_19 rfl
theorem dX4_join_121 : decode cX4_join 121 = .ok (.iconst 0, 1) := kd_r kbX4_join ki_20 rfl
theorem dX4_join_122 : decode cX4_join 122 = .ok (.invokestatic 88, 3) := kd_r kbX4_join ki_272 rfl
theorem dX4_join_125 : decode cX4_join 125 = .ok (.ireturn, 1) := kd_r kbX4_join ki_7 rfl
theorem dX4_join_126 : decode cX4_join 126 = .ok (.iload_n 1, 1) := kd_r kbX4_join ki_8 rfl
