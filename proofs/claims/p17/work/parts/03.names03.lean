theorem dX11_led_4 : decode cX11_led 4 = .ok (.aconst_null, 1) := kd_r kbX11_led ki_542 rfl
theorem dX11_led_5 : decode cX11_led 5 = .ok (.goto 11, 3) := kd_r kbX11_led ki_240 rfl
theorem dX11_led_8 : decode cX11_led 8 = .ok (.aload_n 0, 1) := kd_r kbX11_led ki_0 rfl
theorem dX11_led_9 : decode cX11_led 9 = .ok (.iload_n 1, 1) := kd_r kbX11_led ki_8 rfl
theorem dX11_led_10 : decode cX11_led 10 = .ok (.bipush 100, 2) := kd_r kbX11_led ki_228 rfl
theorem dX11_led_12 : decode cX11_led 12 = .ok (.idiv, 1) := kd_r kbX11_led ki_225 rfl
theorem dX11_led_13 : decode cX11_led 13 = .ok (.invokevirtual 94, 3) := kd_r kbX11_led ki_524 rfl
theorem dX11_led_16 : decode cX11_led 16 = .ok (.astore_n 3, 1) := kd_r kbX11_led ki_553 rfl
theorem dX11_led_17 : decode cX11_led 17 = .ok (.aload_n 3, 1) := kd_r kbX11_led ki_554 rfl
theorem dX11_led_18 : decode cX11_led 18 = .ok (.ifnull 21, 3) := kd_r kbX11_led ki_534 rfl
theorem dX11_led_21 : decode cX11_led 21 = .ok (.aload_n 3, 1) := kd_r kbX11_led ki_554 rfl
theorem dX11_led_22 : decode cX11_led 22 = .ok (.iload_n 1, 1) := kd_r kbX11_led ki_8 rfl
theorem dX11_led_23 : decode cX11_led 23 = .ok (.bipush 100, 2) := kd_r kbX11_led ki_228 rfl
theorem dX11_led_25 : decode cX11_led 25 = .ok (.irem, 1) := kd_r kbX11_led ki_227 rfl
theorem dX11_led_26 : decode cX11_led 26 = .ok (.invokevirtual 128, 3) := kd_r kbX11_led ki_544 rfl
theorem dX11_led_29 : decode cX11_led 29 = .ok (.ifCond .eq 10, 3) := kd_r kbX11_led ki_306 rfl
theorem dX11_led_32 : decode cX11_led 32 = .ok (.iload_n 2, 1) := kd_r kbX11_led ki_11 rfl
theorem dX11_led_33 : decode cX11_led 33 = .ok (.invokestatic 177, 3) := kd_r kbX11_led ki_578 rfl
theorem dX11_led_36 : decode cX11_led 36 = .ok (.ifCond .ne 5, 3) := kd_r kbX11_led ki_36 rfl
theorem dX11_led_39 : decode cX11_led 39 = .ok (.iconst (-1), 1) := kd_r kbX11_led ki_99 rfl
theorem dX11_led_40 : decode cX11_led 40 = .ok (.ireturn, 1) := kd_r kbX11_led ki_7 rfl
theorem dX11_led_41 : decode cX11_led 41 = .ok (.aload_n 0, 1) := kd_r kbX11_led ki_0 rfl
theorem dX11_led_42 : decode cX11_led 42 = .ok (.getfield 37, 3) := kd_r kbX11_led ki_579 rfl
theorem dX11_led_45 : decode cX11_led 45 = .ok (.aload_n 3, 1) := kd_r kbX11_led ki_554 rfl
theorem dX11_led_46 : decode cX11_led 46 = .ok (.iload_n 2, 1) := kd_r kbX11_led ki_11 rfl
theorem dX11_led_47 : decode cX11_led 47 = .ok (.bipush 100, 2) := kd_r kbX11_led ki_228 rfl
theorem dX11_led_49 : decode cX11_led 49 = .ok (.idiv, 1) := kd_r kbX11_led ki_225 rfl
theorem dX11_led_50 : decode cX11_led 50 = .ok (.iload_n 2, 1) := kd_r kbX11_led ki_11 rfl
theorem dX11_led_51 : decode cX11_led 51 = .ok (.bipush 100, 2) := kd_r kbX11_led ki_228 rfl
theorem dX11_led_53 : decode cX11_led 53 = .ok (.irem, 1) := kd_r kbX11_led ki_227 rfl
theorem dX11_led_54 : decode cX11_led 54 = .ok (.invokevirtual 180, 3) := kd_r kbX11_led ki_580 rfl
theorem dX11_led_57 : decode cX11_led 57 = .ok (.ifCond .eq 17, 3) := kd_r kbX11_led ki_96 rfl
theorem dX11_led_60 : decode cX11_led 60 = .ok (.aload_n 0, 1) := kd_r kbX11_led ki_0 rfl
theorem dX11_led_61 : decode cX11_led 61 = .ok (.getfield 37, 3) := kd_r kbX11_led ki_579 rfl
theorem dX11_led_64 : decode cX11_led 64 = .ok (.iload_n 1, 1) := kd_r kbX11_led ki_8 rfl
theorem dX11_led_65 : decode cX11_led 65 = .ok (.bipush 100, 2) := kd_r kbX11_led ki_228 rfl
theorem dX11_led_67 : decode cX11_led 67 = .ok (.irem, 1) := kd_r kbX11_led ki_227 rfl
theorem dX11_led_68 : decode cX11_led 68 = .ok (.invokevirtual 190, 3) := kd_r kbX11_led ki_585 rfl
theorem dX11_led_71 : decode cX11_led 71 = .ok (.goto 5, 3) := kd_r kbX11_led ki_342 rfl
theorem dX11_led_74 : decode cX11_led 74 = .ok (.bipush (-2), 2) := kd_r kbX11_led ki_39 rfl
theorem dX11_led_76 : decode cX11_led 76 = .ok (.ireturn, 1) := kd_r kbX11_led ki_7 rfl
set_option maxRecDepth 20000 in
theorem ggX11_pieces_X11_knownStreet : GoodIn wsX11_pieces wsX11_knownStreet := goodIn_r _ [6, 7, 8, 76, 77, 78, 79, 80, 81, 82, 83, 84, 85, 86, 87, 88, 89] rfl (by decide +kernel)
set_option maxRecDepth 20000 in
theorem gX11_pieces_X11_knownStreet : GoodIn wsX11_pieces (wsV RX11 94 RX11 yX11_knownStreet wsX11_knownStreet) := goodIn_app (goodIn_of _ (by decide +kernel)) ggX11_pieces_X11_knownStreet
set_option maxRecDepth 20000 in
theorem ggX11_pieces_X9_size : GoodIn wsX11_pieces wsX9_size := goodIn_r _ [13, 14, 90, 91, 92, 93] rfl (by decide +kernel)
set_option maxRecDepth 20000 in
theorem gX11_pieces_X9_size : GoodIn wsX11_pieces (wsV RX11 110 RX9 yX9_size wsX9_size) := goodIn_app (goodIn_of _ (by decide +kernel)) ggX11_pieces_X9_size
set_option maxRecDepth 20000 in
theorem ggX11_pieces_X6_divide : GoodIn wsX11_pieces wsX6_divide := goodIn_r _ [19, 20, 21, 22, 10, 11, 12, 13, 14, 23, 24, 25, 26, 27, 28, 29, 30, 31, 32, 33, 34, 18, 35, 36, 37, 38, 39, 40, 41, 42, 43, 44, 45, 46, 47, 48, 49, 50, 51, 52, 53, 54, 55, 56, 57, 58, 59, 60, 61, 62, 63, 94, 95, 96, 97, 98, 90, 91, 92, 93] rfl (by decide +kernel)
set_option maxRecDepth 20000 in
theorem gX11_pieces_X6_divide : GoodIn wsX11_pieces (wsV RX11 193 RX6 yX6_divide wsX6_divide) := goodIn_app (goodIn_of _ (by decide +kernel)) ggX11_pieces_X6_divide
set_option maxRecDepth 20000 in
theorem ggX11_pieces_X6_sum : GoodIn wsX11_pieces wsX6_sum := goodIn_r _ [67, 21, 20, 94, 95, 96, 97, 98] rfl (by decide +kernel)
set_option maxRecDepth 20000 in
theorem gX11_pieces_X6_sum : GoodIn wsX11_pieces (wsV RX11 196 RX6 yX6_sum wsX6_sum) := goodIn_app (goodIn_of _ (by decide +kernel)) ggX11_pieces_X6_sum
set_option maxRecDepth 20000 in
theorem ggX11_pieces_X6_howMany : GoodIn wsX11_pieces wsX6_howMany := goodIn_r _ [71, 20, 94, 95, 96, 97, 98] rfl (by decide +kernel)
set_option maxRecDepth 20000 in
theorem gX11_pieces_X6_howMany : GoodIn wsX11_pieces (wsV RX11 199 RX6 yX6_howMany wsX6_howMany) := goodIn_app (goodIn_of _ (by decide +kernel)) ggX11_pieces_X6_howMany
set_option maxRecDepth 20000 in
theorem ggX11_pieces_X6_begin : GoodIn wsX11_pieces wsX6_begin := goodIn_r _ [75, 63, 94, 95, 96, 97, 98] rfl (by decide +kernel)
set_option maxRecDepth 20000 in
theorem gX11_pieces_X6_begin : GoodIn wsX11_pieces (wsV RX11 202 RX6 yX6_begin wsX6_begin) := goodIn_app (goodIn_of _ (by decide +kernel)) ggX11_pieces_X6_begin
theorem dX11_pieces_0 : decode cX11_pieces 0 = .ok (.aload_n 0, 1) := kd_r kbX11_pieces ki_0 rfl
theorem dX11_pieces_1 : decode cX11_pieces 1 = .ok (.iload_n 1, 1) := kd_r kbX11_pieces ki_8 rfl
theorem dX11_pieces_2 : decode cX11_pieces 2 = .ok (.invokevirtual 94, 3) := kd_r kbX11_pieces ki_524 rfl
theorem dX11_pieces_5 : decode cX11_pieces 5 = .ok (.astore 4, 2) := kd_r kbX11_pieces ki_525 rfl
theorem dX11_pieces_7 : decode cX11_pieces 7 = .ok (.aload 4, 2) := kd_r kbX11_pieces ki_526 rfl
theorem dX11_pieces_9 : decode cX11_pieces 9 = .ok (.ifnull 25, 3) := kd_r kbX11_pieces ki_586 rfl
theorem dX11_pieces_12 : decode cX11_pieces 12 = .ok (.iload_n 2, 1) := kd_r kbX11_pieces ki_11 rfl
theorem dX11_pieces_13 : decode cX11_pieces 13 = .ok (.ifCond .lt 21, 3) := kd_r kbX11_pieces ki_326 rfl
theorem dX11_pieces_16 : decode cX11_pieces 16 = .ok (.iload_n 2, 1) := kd_r kbX11_pieces ki_11 rfl
theorem dX11_pieces_17 : decode cX11_pieces 17 = .ok (.sipush 9999, 3) := kd_r kbX11_pieces ki_587 rfl
theorem dX11_pieces_20 : decode cX11_pieces 20 = .ok (.if_icmp .gt 14, 3) := kd_r kbX11_pieces ki_70 rfl
theorem dX11_pieces_23 : decode cX11_pieces 23 = .ok (.iload_n 3, 1) := kd_r kbX11_pieces ki_55 rfl
theorem dX11_pieces_24 : decode cX11_pieces 24 = .ok (.bipush (-2), 2) := kd_r kbX11_pieces ki_39 rfl
theorem dX11_pieces_26 : decode cX11_pieces 26 = .ok (.if_icmp .lt 8, 3) := kd_r kbX11_pieces ki_588 rfl
theorem dX11_pieces_29 : decode cX11_pieces 29 = .ok (.iload_n 3, 1) := kd_r kbX11_pieces ki_55 rfl
theorem dX11_pieces_30 : decode cX11_pieces 30 = .ok (.iconst 5, 1) := kd_r kbX11_pieces ki_79 rfl
theorem dX11_pieces_31 : decode cX11_pieces 31 = .ok (.if_icmp .lt 5, 3) := kd_r kbX11_pieces ki_193 rfl
theorem dX11_pieces_34 : decode cX11_pieces 34 = .ok (.iconst (-1), 1) := kd_r kbX11_pieces ki_99 rfl
theorem dX11_pieces_35 : decode cX11_pieces 35 = .ok (.ireturn, 1) := kd_r kbX11_pieces ki_7 rfl
theorem dX11_pieces_36 : decode cX11_pieces 36 = .ok (.aload 4, 2) := kd_r kbX11_pieces ki_526 rfl
theorem dX11_pieces_38 : decode cX11_pieces 38 = .ok (.invokevirtual 110, 3) := kd_r kbX11_pieces ki_532 rfl
theorem dX11_pieces_41 : decode cX11_pieces 41 = .ok (.iconst 2, 1) := kd_r kbX11_pieces ki_244 rfl
theorem dX11_pieces_42 : decode cX11_pieces 42 = .ok (.if_icmp .ge 6, 3) := kd_r kbX11_pieces ki_589 rfl
theorem dX11_pieces_45 : decode cX11_pieces 45 = .ok (.bipush (-2), 2) := kd_r kbX11_pieces ki_39 rfl
theorem dX11_pieces_47 : decode cX11_pieces 47 = .ok (.ireturn, 1) := kd_r kbX11_pieces ki_7 rfl
theorem dX11_pieces_48 : decode cX11_pieces 48 = .ok (.aload_n 0, 1) := kd_r kbX11_pieces ki_0 rfl
theorem dX11_pieces_49 : decode cX11_pieces 49 = .ok (.getfield 44, 3) := kd_r kbX11_pieces ki_590 rfl
theorem dX11_pieces_52 : decode cX11_pieces 52 = .ok (.aload 4, 2) := kd_r kbX11_pieces ki_526 rfl
theorem dX11_pieces_54 : decode cX11_pieces 54 = .ok (.iload_n 2, 1) := kd_r kbX11_pieces ki_11 rfl
theorem dX11_pieces_55 : decode cX11_pieces 55 = .ok (.invokevirtual 193, 3) := kd_r kbX11_pieces ki_591 rfl
theorem dX11_pieces_58 : decode cX11_pieces 58 = .ok (.iload_n 3, 1) := kd_r kbX11_pieces ki_55 rfl
theorem dX11_pieces_59 : decode cX11_pieces 59 = .ok (.ifCond .ge 27, 3) := kd_r kbX11_pieces ki_592 rfl
theorem dX11_pieces_62 : decode cX11_pieces 62 = .ok (.iload_n 3, 1) := kd_r kbX11_pieces ki_55 rfl
theorem dX11_pieces_63 : decode cX11_pieces 63 = .ok (.bipush (-2), 2) := kd_r kbX11_pieces ki_39 rfl
theorem dX11_pieces_65 : decode cX11_pieces 65 = .ok (.if_icmp .ne 13, 3) := kd_r kbX11_pieces ki_477 rfl
theorem dX11_pieces_68 : decode cX11_pieces 68 = .ok (.aload_n 0, 1) := kd_r kbX11_pieces ki_0 rfl
theorem dX11_pieces_69 : decode cX11_pieces 69 = .ok (.getfield 44, 3) := kd_r kbX11_pieces ki_590 rfl
theorem dX11_pieces_72 : decode cX11_pieces 72 = .ok (.invokevirtual 196, 3) := kd_r kbX11_pieces ki_593 rfl
theorem dX11_pieces_75 : decode cX11_pieces 75 = .ok (.goto 10, 3) := kd_r kbX11_pieces ki_361 rfl
theorem dX11_pieces_78 : decode cX11_pieces 78 = .ok (.aload_n 0, 1) := kd_r kbX11_pieces ki_0 rfl
theorem dX11_pieces_79 : decode cX11_pieces 79 = .ok (.getfield 44, 3) := kd_r kbX11_pieces ki_590 rfl
theorem dX11_pieces_82 : decode cX11_pieces 82 = .ok (.invokevirtual 199, 3) := kd_r kbX11_pieces ki_594 rfl
theorem dX11_pieces_85 : decode cX11_pieces 85 = .ok (.ireturn, 1) := kd_r kbX11_pieces ki_7 rfl
theorem dX11_pieces_86 : decode cX11_pieces 86 = .ok (.iload_n 3, 1) := kd_r kbX11_pieces ki_55 rfl
theorem dX11_pieces_87 : decode cX11_pieces 87 = .ok (.aload_n 0, 1) := kd_r kbX11_pieces ki_0 rfl
theorem dX11_pieces_88 : decode cX11_pieces 88 = .ok (.getfield 44, 3) := kd_r kbX11_pieces ki_590 rfl
theorem dX11_pieces_91 : decode cX11_pieces 91 = .ok (.invokevirtual 199, 3) := kd_r kbX11_pieces ki_594 rfl
theorem dX11_pieces_94 : decode cX11_pieces 94 = .ok (.if_icmp .ge 14, 3) := kd_r kbX11_pieces ki_307 rfl
theorem dX11_pieces_97 : decode cX11_pieces 97 = .ok (.aload_n 0, 1) := kd_r kbX11_pieces ki_0 rfl
theorem dX11_pieces_98 : decode cX11_pieces 98 = .ok (.getfield 44, 3) := kd_r kbX11_pieces ki_590 rfl
theorem dX11_pieces_101 : decode cX11_pieces 101 = .ok (.iload_n 3, 1) := kd_r kbX11_pieces ki_55 rfl
theorem dX11_pieces_102 : decode cX11_pieces 102 = .ok (.invokevirtual 202, 3) := kd_r kbX11_pieces ki_595 rfl
theorem dX11_pieces_105 : decode cX11_pieces 105 = .ok (.goto 4, 3) := kd_r kbX11_pieces ki_19 rfl
theorem dX11_pieces_108 : decode cX11_pieces 108 = .ok (.iconst (-1), 1) := kd_r kbX11_pieces ki_99 rfl
theorem dX11_pieces_109 : decode cX11_pieces 109 = .ok (.ireturn, 1) := kd_r kbX11_pieces ki_7 rfl
set_option maxRecDepth 20000 in
theorem ggX11_bend_X0_isTold : GoodIn wsX11_bend wsX0_isTold := goodIn_r _ [7, 8, 9, 10, 6, 11, 32, 33] rfl (by decide +kernel)
set_option maxRecDepth 20000 in
theorem gX11_bend_X0_isTold : GoodIn wsX11_bend (wsV RX11 203 RX0 yX0_isTold wsX0_isTold) := goodIn_app (goodIn_of _ (by decide +kernel)) ggX11_bend_X0_isTold
set_option maxRecDepth 20000 in
theorem ggX11_bend_X0_tell : GoodIn wsX11_bend wsX0_tell := goodIn_r _ [15, 8, 16, 9, 10, 6, 11, 17, 4, 5, 7, 32, 33] rfl (by decide +kernel)
set_option maxRecDepth 20000 in
theorem gX11_bend_X0_tell : GoodIn wsX11_bend (wsV RX11 207 RX0 yX0_tell wsX0_tell) := goodIn_app (goodIn_of _ (by decide +kernel)) ggX11_bend_X0_tell
theorem dX11_bend_0 : decode cX11_bend 0 = .ok (.iload_n 1, 1) := kd_r kbX11_bend ki_8 rfl
theorem dX11_bend_1 : decode cX11_bend 1 = .ok (.bipush 10, 2) := kd_r kbX11_bend ki_71 rfl
theorem dX11_bend_3 : decode cX11_bend 3 = .ok (.idiv, 1) := kd_r kbX11_bend ki_225 rfl
theorem dX11_bend_4 : decode cX11_bend 4 = .ok (.istore_n 2, 1) := kd_r kbX11_bend ki_32 rfl
theorem dX11_bend_5 : decode cX11_bend 5 = .ok (.iload_n 1, 1) := kd_r kbX11_bend ki_8 rfl
theorem dX11_bend_6 : decode cX11_bend 6 = .ok (.bipush 10, 2) := kd_r kbX11_bend ki_71 rfl
theorem dX11_bend_8 : decode cX11_bend 8 = .ok (.irem, 1) := kd_r kbX11_bend ki_227 rfl
theorem dX11_bend_9 : decode cX11_bend 9 = .ok (.istore_n 3, 1) := kd_r kbX11_bend ki_108 rfl
theorem dX11_bend_10 : decode cX11_bend 10 = .ok (.iload_n 1, 1) := kd_r kbX11_bend ki_8 rfl
theorem dX11_bend_11 : decode cX11_bend 11 = .ok (.ifCond .lt 36, 3) := kd_r kbX11_bend ki_596 rfl
theorem dX11_bend_14 : decode cX11_bend 14 = .ok (.iload_n 2, 1) := kd_r kbX11_bend ki_11 rfl
theorem dX11_bend_15 : decode cX11_bend 15 = .ok (.aload_n 0, 1) := kd_r kbX11_bend ki_0 rfl
theorem dX11_bend_16 : decode cX11_bend 16 = .ok (.getfield 90, 3) := kd_r kbX11_bend ki_522 rfl
theorem dX11_bend_19 : decode cX11_bend 19 = .ok (.if_icmp .ge 28, 3) := kd_r kbX11_bend ki_317 rfl
theorem dX11_bend_22 : decode cX11_bend 22 = .ok (.iload_n 3, 1) := kd_r kbX11_bend ki_55 rfl
theorem dX11_bend_23 : decode cX11_bend 23 = .ok (.aload_n 0, 1) := kd_r kbX11_bend ki_0 rfl
theorem dX11_bend_24 : decode cX11_bend 24 = .ok (.getfield 90, 3) := kd_r kbX11_bend ki_522 rfl
theorem dX11_bend_27 : decode cX11_bend 27 = .ok (.if_icmp .ge 20, 3) := kd_r kbX11_bend ki_220 rfl
theorem dX11_bend_30 : decode cX11_bend 30 = .ok (.iload_n 2, 1) := kd_r kbX11_bend ki_11 rfl
theorem dX11_bend_31 : decode cX11_bend 31 = .ok (.iload_n 3, 1) := kd_r kbX11_bend ki_55 rfl
theorem dX11_bend_32 : decode cX11_bend 32 = .ok (.if_icmp .eq 15, 3) := kd_r kbX11_bend ki_464 rfl
theorem dX11_bend_35 : decode cX11_bend 35 = .ok (.aload_n 0, 1) := kd_r kbX11_bend ki_0 rfl
theorem dX11_bend_36 : decode cX11_bend 36 = .ok (.getfield 51, 3) := kd_r kbX11_bend ki_597 rfl
theorem dX11_bend_39 : decode cX11_bend 39 = .ok (.iload_n 2, 1) := kd_r kbX11_bend ki_11 rfl
theorem dX11_bend_40 : decode cX11_bend 40 = .ok (.iload_n 3, 1) := kd_r kbX11_bend ki_55 rfl
theorem dX11_bend_41 : decode cX11_bend 41 = .ok (.invokevirtual 203, 3) := kd_r kbX11_bend ki_598 rfl
theorem dX11_bend_44 : decode cX11_bend 44 = .ok (.ifCond .eq 5, 3) := kd_r kbX11_bend ki_539 rfl
theorem dX11_bend_47 : decode cX11_bend 47 = .ok (.iconst (-1), 1) := kd_r kbX11_bend ki_99 rfl
theorem dX11_bend_48 : decode cX11_bend 48 = .ok (.ireturn, 1) := kd_r kbX11_bend ki_7 rfl
theorem dX11_bend_49 : decode cX11_bend 49 = .ok (.aload_n 0, 1) := kd_r kbX11_bend ki_0 rfl
theorem dX11_bend_50 : decode cX11_bend 50 = .ok (.getfield 51, 3) := kd_r kbX11_bend ki_597 rfl
theorem dX11_bend_53 : decode cX11_bend 53 = .ok (.iload_n 2, 1) := kd_r kbX11_bend ki_11 rfl
theorem dX11_bend_54 : decode cX11_bend 54 = .ok (.iload_n 3, 1) := kd_r kbX11_bend ki_55 rfl
theorem dX11_bend_55 : decode cX11_bend 55 = .ok (.invokevirtual 207, 3) := kd_r kbX11_bend ki_599 rfl
theorem dX11_bend_58 : decode cX11_bend 58 = .ok (.ireturn, 1) := kd_r kbX11_bend ki_7 rfl
set_option maxRecDepth 20000 in
theorem ggX11_order_X0_leastFree : GoodIn wsX11_order wsX0_leastFree := goodIn_r _ [7, 8, 28, 29] rfl (by decide +kernel)
set_option maxRecDepth 20000 in
theorem gX11_order_X0_leastFree : GoodIn wsX11_order (wsV RX11 209 RX0 yX0_leastFree wsX0_leastFree) := goodIn_app (goodIn_of _ (by decide +kernel)) ggX11_order_X0_leastFree
set_option maxRecDepth 20000 in
theorem ggX11_order_J6_numberOfTrailingZeros_0f7a4 : GoodIn wsX11_order wsJ6_numberOfTrailingZeros_0f7a4 := goodIn_r _ [12, 13] rfl (by decide +kernel)
set_option maxRecDepth 20000 in
theorem gX11_order_J6_numberOfTrailingZeros_0f7a4 : GoodIn wsX11_order (va_wsS RX11 212 yJ6_numberOfTrailingZeros_0f7a4 wsJ6_numberOfTrailingZeros_0f7a4) := goodIn_app (goodIn_of _ (by decide +kernel)) ggX11_order_J6_numberOfTrailingZeros_0f7a4
theorem dX11_order_0 : decode cX11_order 0 = .ok (.iload_n 1, 1) := kd_r kbX11_order ki_8 rfl
theorem dX11_order_1 : decode cX11_order 1 = .ok (.iconst (-1), 1) := kd_r kbX11_order ki_99 rfl
theorem dX11_order_2 : decode cX11_order 2 = .ok (.if_icmp .ge 5, 3) := kd_r kbX11_order ki_430 rfl
theorem dX11_order_5 : decode cX11_order 5 = .ok (.iconst (-1), 1) := kd_r kbX11_order ki_99 rfl
theorem dX11_order_6 : decode cX11_order 6 = .ok (.ireturn, 1) := kd_r kbX11_order ki_7 rfl
theorem dX11_order_7 : decode cX11_order 7 = .ok (.iconst 1, 1) := kd_r kbX11_order ki_16 rfl
theorem dX11_order_8 : decode cX11_order 8 = .ok (.aload_n 0, 1) := kd_r kbX11_order ki_0 rfl
theorem dX11_order_9 : decode cX11_order 9 = .ok (.getfield 90, 3) := kd_r kbX11_order ki_522 rfl
theorem dX11_order_12 : decode cX11_order 12 = .ok (.ishl, 1) := kd_r kbX11_order ki_26 rfl
theorem dX11_order_13 : decode cX11_order 13 = .ok (.iconst 1, 1) := kd_r kbX11_order ki_16 rfl
theorem dX11_order_14 : decode cX11_order 14 = .ok (.isub, 1) := kd_r kbX11_order ki_50 rfl
theorem dX11_order_15 : decode cX11_order 15 = .ok (.istore_n 2, 1) := kd_r kbX11_order ki_32 rfl
theorem dX11_order_16 : decode cX11_order 16 = .ok (.iconst 0, 1) := kd_r kbX11_order ki_20 rfl
theorem dX11_order_17 : decode cX11_order 17 = .ok (.istore_n 3, 1) := kd_r kbX11_order ki_108 rfl
theorem dX11_order_18 : decode cX11_order 18 = .ok (.iload_n 3, 1) := kd_r kbX11_order ki_55 rfl
theorem dX11_order_19 : decode cX11_order 19 = .ok (.aload_n 0, 1) := kd_r kbX11_order ki_0 rfl
theorem dX11_order_20 : decode cX11_order 20 = .ok (.getfield 90, 3) := kd_r kbX11_order ki_522 rfl
theorem dX11_order_23 : decode cX11_order 23 = .ok (.if_icmp .ge 56, 3) := kd_r kbX11_order ki_600 rfl
theorem dX11_order_26 : decode cX11_order 26 = .ok (.aload_n 0, 1) := kd_r kbX11_order ki_0 rfl
theorem dX11_order_27 : decode cX11_order 27 = .ok (.getfield 51, 3) := kd_r kbX11_order ki_597 rfl
theorem dX11_order_30 : decode cX11_order 30 = .ok (.iload_n 2, 1) := kd_r kbX11_order ki_11 rfl
theorem dX11_order_31 : decode cX11_order 31 = .ok (.invokevirtual 209, 3) := kd_r kbX11_order ki_601 rfl
theorem dX11_order_34 : decode cX11_order 34 = .ok (.istore 4, 2) := kd_r kbX11_order ki_129 rfl
theorem dX11_order_36 : decode cX11_order 36 = .ok (.iload 4, 2) := kd_r kbX11_order ki_57 rfl
theorem dX11_order_38 : decode cX11_order 38 = .ok (.ifCond .ge 18, 3) := kd_r kbX11_order ki_602 rfl
theorem dX11_order_41 : decode cX11_order 41 = .ok (.iload_n 1, 1) := kd_r kbX11_order ki_8 rfl
theorem dX11_order_42 : decode cX11_order 42 = .ok (.iconst (-1), 1) := kd_r kbX11_order ki_99 rfl
theorem dX11_order_43 : decode cX11_order 43 = .ok (.if_icmp .ne 10, 3) := kd_r kbX11_order ki_415 rfl
theorem dX11_order_46 : decode cX11_order 46 = .ok (.iload_n 2, 1) := kd_r kbX11_order ki_11 rfl
theorem dX11_order_47 : decode cX11_order 47 = .ok (.invokestatic 212, 3) := kd_r kbX11_order ki_603 rfl
theorem dX11_order_50 : decode cX11_order 50 = .ok (.goto 5, 3) := kd_r kbX11_order ki_342 rfl
theorem dX11_order_53 : decode cX11_order 53 = .ok (.bipush (-2), 2) := kd_r kbX11_order ki_39 rfl
theorem dX11_order_55 : decode cX11_order 55 = .ok (.ireturn, 1) := kd_r kbX11_order ki_7 rfl
theorem dX11_order_56 : decode cX11_order 56 = .ok (.iload_n 3, 1) := kd_r kbX11_order ki_55 rfl
theorem dX11_order_57 : decode cX11_order 57 = .ok (.iload_n 1, 1) := kd_r kbX11_order ki_8 rfl
theorem dX11_order_58 : decode cX11_order 58 = .ok (.if_icmp .ne 6, 3) := kd_r kbX11_order ki_604 rfl
theorem dX11_order_61 : decode cX11_order 61 = .ok (.iload 4, 2) := kd_r kbX11_order ki_57 rfl
theorem dX11_order_63 : decode cX11_order 63 = .ok (.ireturn, 1) := kd_r kbX11_order ki_7 rfl
theorem dX11_order_64 : decode cX11_order 64 = .ok (.iload_n 2, 1) := kd_r kbX11_order ki_11 rfl
theorem dX11_order_65 : decode cX11_order 65 = .ok (.iconst 1, 1) := kd_r kbX11_order ki_16 rfl
theorem dX11_order_66 : decode cX11_order 66 = .ok (.iload 4, 2) := kd_r kbX11_order ki_57 rfl
theorem dX11_order_68 : decode cX11_order 68 = .ok (.ishl, 1) := kd_r kbX11_order ki_26 rfl
theorem dX11_order_69 : decode cX11_order 69 = .ok (.iconst (-1), 1) := kd_r kbX11_order ki_99 rfl
theorem dX11_order_70 : decode cX11_order 70 = .ok (.ixor, 1) := kd_r kbX11_order ki_313 rfl
theorem dX11_order_71 : decode cX11_order 71 = .ok (.iand, 1) := kd_r kbX11_order ki_17 rfl
theorem dX11_order_72 : decode cX11_order 72 = .ok (.istore_n 2, 1) := kd_r kbX11_order ki_32 rfl
theorem dX11_order_73 : decode cX11_order 73 = .ok (.iinc 3 1, 3) := kd_r kbX11_order ki_116 rfl
theorem dX11_order_76 : decode cX11_order 76 = .ok (.goto (-58), 3) := kd_r kbX11_order ki_605 rfl
theorem dX11_order_79 : decode cX11_order 79 = .ok (.bipush (-2), 2) := kd_r kbX11_order ki_39 rfl
theorem dX11_order_81 : decode cX11_order 81 = .ok (.ireturn, 1) := kd_r kbX11_order ki_7 rfl
set_option maxRecDepth 20000 in
theorem ggX11_wall_X11_knownStreet : GoodIn wsX11_wall wsX11_knownStreet := goodIn_r _ [5, 6, 7, 42, 43, 44, 45, 46, 47, 48, 49, 50, 51, 52, 53, 54, 55] rfl (by decide +kernel)
set_option maxRecDepth 20000 in
theorem gX11_wall_X11_knownStreet : GoodIn wsX11_wall (wsV RX11 94 RX11 yX11_knownStreet wsX11_knownStreet) := goodIn_app (goodIn_of _ (by decide +kernel)) ggX11_wall_X11_knownStreet
set_option maxRecDepth 20000 in
theorem ggX11_wall_X9_longestAbove : GoodIn wsX11_wall wsX9_longestAbove := goodIn_r _ [12, 13, 14, 15, 16, 17, 11, 18, 19, 20, 21, 22, 23, 56, 57, 58, 59] rfl (by decide +kernel)
set_option maxRecDepth 20000 in
theorem gX11_wall_X9_longestAbove : GoodIn wsX11_wall (wsV RX11 217 RX9 yX9_longestAbove wsX9_longestAbove) := goodIn_app (goodIn_of _ (by decide +kernel)) ggX11_wall_X9_longestAbove
set_option maxRecDepth 20000 in
theorem ggX11_wall_X9_length : GoodIn wsX11_wall wsX9_length := goodIn_r _ [18, 19, 20, 21, 11, 22, 13, 23, 56, 57, 58, 59] rfl (by decide +kernel)
set_option maxRecDepth 20000 in
theorem gX11_wall_X9_length : GoodIn wsX11_wall (wsV RX11 220 RX9 yX9_length wsX9_length) := goodIn_app (goodIn_of _ (by decide +kernel)) ggX11_wall_X9_length
set_option maxRecDepth 20000 in
theorem ggX11_wall_X9_leastDeep : GoodIn wsX11_wall wsX9_leastDeep := goodIn_r _ [28, 29, 30, 31, 11, 32, 33, 34, 35, 36, 13, 37, 38, 39, 40, 23, 14, 41, 56, 57, 58, 59] rfl (by decide +kernel)
set_option maxRecDepth 20000 in
theorem gX11_wall_X9_leastDeep : GoodIn wsX11_wall (wsV RX11 223 RX9 yX9_leastDeep wsX9_leastDeep) := goodIn_app (goodIn_of _ (by decide +kernel)) ggX11_wall_X9_leastDeep
theorem dX11_wall_0 : decode cX11_wall 0 = .ok (.aload_n 0, 1) := kd_r kbX11_wall ki_0 rfl
theorem dX11_wall_1 : decode cX11_wall 1 = .ok (.iload_n 1, 1) := kd_r kbX11_wall ki_8 rfl
theorem dX11_wall_2 : decode cX11_wall 2 = .ok (.invokevirtual 94, 3) := kd_r kbX11_wall ki_524 rfl
theorem dX11_wall_5 : decode cX11_wall 5 = .ok (.astore 4, 2) := kd_r kbX11_wall ki_525 rfl
theorem dX11_wall_7 : decode cX11_wall 7 = .ok (.aload 4, 2) := kd_r kbX11_wall ki_526 rfl
theorem dX11_wall_9 : decode cX11_wall 9 = .ok (.ifnull 12, 3) := kd_r kbX11_wall ki_606 rfl
theorem dX11_wall_12 : decode cX11_wall 12 = .ok (.iload_n 3, 1) := kd_r kbX11_wall ki_55 rfl
theorem dX11_wall_13 : decode cX11_wall 13 = .ok (.ifCond .lt 8, 3) := kd_r kbX11_wall ki_300 rfl
theorem dX11_wall_16 : decode cX11_wall 16 = .ok (.iload_n 3, 1) := kd_r kbX11_wall ki_55 rfl
theorem dX11_wall_17 : decode cX11_wall 17 = .ok (.iconst 2, 1) := kd_r kbX11_wall ki_244 rfl
theorem dX11_wall_18 : decode cX11_wall 18 = .ok (.if_icmp .le 5, 3) := kd_r kbX11_wall ki_106 rfl
theorem dX11_wall_21 : decode cX11_wall 21 = .ok (.iconst (-1), 1) := kd_r kbX11_wall ki_99 rfl
theorem dX11_wall_22 : decode cX11_wall 22 = .ok (.ireturn, 1) := kd_r kbX11_wall ki_7 rfl
theorem dX11_wall_23 : decode cX11_wall 23 = .ok (.aload 4, 2) := kd_r kbX11_wall ki_526 rfl
theorem dX11_wall_25 : decode cX11_wall 25 = .ok (.iload_n 2, 1) := kd_r kbX11_wall ki_11 rfl
theorem dX11_wall_26 : decode cX11_wall 26 = .ok (.invokevirtual 217, 3) := kd_r kbX11_wall ki_607 rfl
theorem dX11_wall_29 : decode cX11_wall 29 = .ok (.istore 5, 2) := kd_r kbX11_wall ki_133 rfl
theorem dX11_wall_31 : decode cX11_wall 31 = .ok (.iload 5, 2) := kd_r kbX11_wall ki_134 rfl
theorem dX11_wall_33 : decode cX11_wall 33 = .ok (.ifCond .ge 6, 3) := kd_r kbX11_wall ki_555 rfl
theorem dX11_wall_36 : decode cX11_wall 36 = .ok (.bipush (-2), 2) := kd_r kbX11_wall ki_39 rfl
theorem dX11_wall_38 : decode cX11_wall 38 = .ok (.ireturn, 1) := kd_r kbX11_wall ki_7 rfl
theorem dX11_wall_39 : decode cX11_wall 39 = .ok (.iload_n 3, 1) := kd_r kbX11_wall ki_55 rfl
theorem dX11_wall_40 : decode cX11_wall 40 = .ok (.ifCond .ne 11, 3) := kd_r kbX11_wall ki_608 rfl
theorem dX11_wall_43 : decode cX11_wall 43 = .ok (.iload 5, 2) := kd_r kbX11_wall ki_134 rfl
theorem dX11_wall_45 : decode cX11_wall 45 = .ok (.bipush 100, 2) := kd_r kbX11_wall ki_228 rfl
theorem dX11_wall_47 : decode cX11_wall 47 = .ok (.idiv, 1) := kd_r kbX11_wall ki_225 rfl
theorem dX11_wall_48 : decode cX11_wall 48 = .ok (.goto 25, 3) := kd_r kbX11_wall ki_609 rfl
theorem dX11_wall_51 : decode cX11_wall 51 = .ok (.iload_n 3, 1) := kd_r kbX11_wall ki_55 rfl
theorem dX11_wall_52 : decode cX11_wall 52 = .ok (.iconst 1, 1) := kd_r kbX11_wall ki_16 rfl
theorem dX11_wall_53 : decode cX11_wall 53 = .ok (.if_icmp .ne 13, 3) := kd_r kbX11_wall ki_477 rfl
theorem dX11_wall_56 : decode cX11_wall 56 = .ok (.aload 4, 2) := kd_r kbX11_wall ki_526 rfl
theorem dX11_wall_58 : decode cX11_wall 58 = .ok (.iload 5, 2) := kd_r kbX11_wall ki_134 rfl
theorem dX11_wall_60 : decode cX11_wall 60 = .ok (.invokevirtual 220, 3) := kd_r kbX11_wall ki_610 rfl
theorem dX11_wall_63 : decode cX11_wall 63 = .ok (.goto 10, 3) := kd_r kbX11_wall ki_361 rfl
theorem dX11_wall_66 : decode cX11_wall 66 = .ok (.aload 4, 2) := kd_r kbX11_wall ki_526 rfl
theorem dX11_wall_68 : decode cX11_wall 68 = .ok (.iload 5, 2) := kd_r kbX11_wall ki_134 rfl
theorem dX11_wall_70 : decode cX11_wall 70 = .ok (.invokevirtual 223, 3) := kd_r kbX11_wall ki_611 rfl
theorem dX11_wall_73 : decode cX11_wall 73 = .ok (.ireturn, 1) := kd_r kbX11_wall ki_7 rfl
set_option maxRecDepth 20000 in
theorem ggX11_furrow_X11_knownStreet : GoodIn wsX11_furrow wsX11_knownStreet := goodIn_r _ [5, 6, 7, 19, 20, 21, 22, 23, 24, 25, 26, 27, 28, 29, 30, 31, 32] rfl (by decide +kernel)
set_option maxRecDepth 20000 in
theorem gX11_furrow_X11_knownStreet : GoodIn wsX11_furrow (wsV RX11 94 RX11 yX11_knownStreet wsX11_knownStreet) := goodIn_app (goodIn_of _ (by decide +kernel)) ggX11_furrow_X11_knownStreet
set_option maxRecDepth 20000 in
theorem ggX11_furrow_X9_turns : GoodIn wsX11_furrow wsX9_turns := goodIn_r _ [12, 13, 14, 15, 16, 17, 18, 33, 34, 35, 36] rfl (by decide +kernel)
set_option maxRecDepth 20000 in
theorem gX11_furrow_X9_turns : GoodIn wsX11_furrow (wsV RX11 226 RX9 yX9_turns wsX9_turns) := goodIn_app (goodIn_of _ (by decide +kernel)) ggX11_furrow_X9_turns
theorem dX11_furrow_0 : decode cX11_furrow 0 = .ok (.aload_n 0, 1) := kd_r kbX11_furrow ki_0 rfl
theorem dX11_furrow_1 : decode cX11_furrow 1 = .ok (.iload_n 1, 1) := kd_r kbX11_furrow ki_8 rfl
theorem dX11_furrow_2 : decode cX11_furrow 2 = .ok (.invokevirtual 94, 3) := kd_r kbX11_furrow ki_524 rfl
theorem dX11_furrow_5 : decode cX11_furrow 5 = .ok (.astore_n 2, 1) := kd_r kbX11_furrow ki_612 rfl
theorem dX11_furrow_6 : decode cX11_furrow 6 = .ok (.aload_n 2, 1) := kd_r kbX11_furrow ki_613 rfl
theorem dX11_furrow_7 : decode cX11_furrow 7 = .ok (.ifnonnull 7, 3) := kd_r kbX11_furrow ki_614 rfl
theorem dX11_furrow_10 : decode cX11_furrow 10 = .ok (.iconst (-1), 1) := kd_r kbX11_furrow ki_99 rfl
theorem dX11_furrow_11 : decode cX11_furrow 11 = .ok (.goto 7, 3) := kd_r kbX11_furrow ki_416 rfl
theorem dX11_furrow_14 : decode cX11_furrow 14 = .ok (.aload_n 2, 1) := kd_r kbX11_furrow ki_613 rfl
theorem dX11_furrow_15 : decode cX11_furrow 15 = .ok (.invokevirtual 226, 3) := kd_r kbX11_furrow ki_615 rfl
theorem dX11_furrow_18 : decode cX11_furrow 18 = .ok (.ireturn, 1) := kd_r kbX11_furrow ki_7 rfl
set_option maxRecDepth 20000 in
theorem ggX11_market_X11_knownStreet : GoodIn wsX11_market wsX11_knownStreet := goodIn_r _ [5, 6, 7, 32, 33, 34, 35, 36, 37, 38, 39, 40, 41, 42, 43, 44, 45] rfl (by decide +kernel)
set_option maxRecDepth 20000 in
theorem gX11_market_X11_knownStreet : GoodIn wsX11_market (wsV RX11 94 RX11 yX11_knownStreet wsX11_knownStreet) := goodIn_app (goodIn_of _ (by decide +kernel)) ggX11_market_X11_knownStreet
set_option maxRecDepth 20000 in
theorem ggX11_market_X9_hasRow : GoodIn wsX11_market wsX9_hasRow := goodIn_r _ [12, 13, 14, 15, 11, 16, 17, 46, 47, 48, 49] rfl (by decide +kernel)
set_option maxRecDepth 20000 in
theorem gX11_market_X9_hasRow : GoodIn wsX11_market (wsV RX11 154 RX9 yX9_hasRow wsX9_hasRow) := goodIn_app (goodIn_of _ (by decide +kernel)) ggX11_market_X9_hasRow
set_option maxRecDepth 20000 in
theorem ggX11_market_X9_size : GoodIn wsX11_market wsX9_size := goodIn_r _ [21, 17, 46, 47, 48, 49] rfl (by decide +kernel)
set_option maxRecDepth 20000 in
theorem gX11_market_X9_size : GoodIn wsX11_market (wsV RX11 110 RX9 yX9_size wsX9_size) := goodIn_app (goodIn_of _ (by decide +kernel)) ggX11_market_X9_size
set_option maxRecDepth 20000 in
theorem ggX11_market_X9_begin : GoodIn wsX11_market wsX9_begin := goodIn_r _ [25, 17, 26, 46, 47, 48, 49] rfl (by decide +kernel)
set_option maxRecDepth 20000 in
theorem gX11_market_X9_begin : GoodIn wsX11_market (wsV RX11 147 RX9 yX9_begin wsX9_begin) := goodIn_app (goodIn_of _ (by decide +kernel)) ggX11_market_X9_begin
set_option maxRecDepth 20000 in
theorem ggX11_market_X9_length : GoodIn wsX11_market wsX9_length := goodIn_r _ [30, 31, 23, 24, 11, 25, 17, 26, 46, 47, 48, 49] rfl (by decide +kernel)
set_option maxRecDepth 20000 in
theorem gX11_market_X9_length : GoodIn wsX11_market (wsV RX11 220 RX9 yX9_length wsX9_length) := goodIn_app (goodIn_of _ (by decide +kernel)) ggX11_market_X9_length
theorem dX11_market_0 : decode cX11_market 0 = .ok (.aload_n 0, 1) := kd_r kbX11_market ki_0 rfl
theorem dX11_market_1 : decode cX11_market 1 = .ok (.iload_n 1, 1) := kd_r kbX11_market ki_8 rfl
theorem dX11_market_2 : decode cX11_market 2 = .ok (.invokevirtual 94, 3) := kd_r kbX11_market ki_524 rfl
theorem dX11_market_5 : decode cX11_market 5 = .ok (.astore_n 3, 1) := kd_r kbX11_market ki_553 rfl
theorem dX11_market_6 : decode cX11_market 6 = .ok (.aload_n 3, 1) := kd_r kbX11_market ki_554 rfl
theorem dX11_market_7 : decode cX11_market 7 = .ok (.ifnull 11, 3) := kd_r kbX11_market ki_616 rfl
theorem dX11_market_10 : decode cX11_market 10 = .ok (.aload_n 3, 1) := kd_r kbX11_market ki_554 rfl
theorem dX11_market_11 : decode cX11_market 11 = .ok (.iload_n 2, 1) := kd_r kbX11_market ki_11 rfl
theorem dX11_market_12 : decode cX11_market 12 = .ok (.invokevirtual 154, 3) := kd_r kbX11_market ki_565 rfl
theorem dX11_market_15 : decode cX11_market 15 = .ok (.ifCond .ne 5, 3) := kd_r kbX11_market ki_36 rfl
theorem dX11_market_18 : decode cX11_market 18 = .ok (.iconst (-1), 1) := kd_r kbX11_market ki_99 rfl
theorem dX11_market_19 : decode cX11_market 19 = .ok (.ireturn, 1) := kd_r kbX11_market ki_7 rfl
theorem dX11_market_20 : decode cX11_market 20 = .ok (.aload_n 3, 1) := kd_r kbX11_market ki_554 rfl
theorem dX11_market_21 : decode cX11_market 21 = .ok (.aload_n 3, 1) := kd_r kbX11_market ki_554 rfl
theorem dX11_market_22 : decode cX11_market 22 = .ok (.invokevirtual 110, 3) := kd_r kbX11_market ki_532 rfl
theorem dX11_market_25 : decode cX11_market 25 = .ok (.invokevirtual 147, 3) := kd_r kbX11_market ki_559 rfl
theorem dX11_market_28 : decode cX11_market 28 = .ok (.istore 4, 2) := kd_r kbX11_market ki_129 rfl
theorem dX11_market_30 : decode cX11_market 30 = .ok (.iload 4, 2) := kd_r kbX11_market ki_57 rfl
theorem dX11_market_32 : decode cX11_market 32 = .ok (.ifCond .le 18, 3) := kd_r kbX11_market ki_617 rfl
theorem dX11_market_35 : decode cX11_market 35 = .ok (.aload_n 3, 1) := kd_r kbX11_market ki_554 rfl
theorem dX11_market_36 : decode cX11_market 36 = .ok (.iload_n 2, 1) := kd_r kbX11_market ki_11 rfl
theorem dX11_market_37 : decode cX11_market 37 = .ok (.invokevirtual 220, 3) := kd_r kbX11_market ki_610 rfl
theorem dX11_market_40 : decode cX11_market 40 = .ok (.sipush 1000, 3) := kd_r kbX11_market ki_188 rfl
theorem dX11_market_43 : decode cX11_market 43 = .ok (.imul, 1) := kd_r kbX11_market ki_114 rfl
theorem dX11_market_44 : decode cX11_market 44 = .ok (.iload 4, 2) := kd_r kbX11_market ki_57 rfl
theorem dX11_market_46 : decode cX11_market 46 = .ok (.idiv, 1) := kd_r kbX11_market ki_225 rfl
theorem dX11_market_47 : decode cX11_market 47 = .ok (.goto 4, 3) := kd_r kbX11_market ki_19 rfl
theorem dX11_market_50 : decode cX11_market 50 = .ok (.iconst (-1), 1) := kd_r kbX11_market ki_99 rfl
theorem dX11_market_51 : decode cX11_market 51 = .ok (.ireturn, 1) := kd_r kbX11_market ki_7 rfl
set_option maxRecDepth 20000 in
theorem ggX11_deed_X2_isName : GoodIn wsX11_deed wsX2_isName := goodIn_r _ [5] rfl (by decide +kernel)
set_option maxRecDepth 20000 in
theorem gX11_deed_X2_isName : GoodIn wsX11_deed (va_wsS RX11 229 yX2_isName wsX2_isName) := goodIn_app (goodIn_of _ (by decide +kernel)) ggX11_deed_X2_isName
set_option maxRecDepth 20000 in
theorem ggX11_deed_X2_isFull : GoodIn wsX11_deed wsX2_isFull := goodIn_r _ [9, 10, 33, 34, 35, 36, 37, 38, 39, 40, 41, 42, 43, 44, 45] rfl (by decide +kernel)
set_option maxRecDepth 20000 in
theorem gX11_deed_X2_isFull : GoodIn wsX11_deed (wsV RX11 232 RX2 yX2_isFull wsX2_isFull) := goodIn_app (goodIn_of _ (by decide +kernel)) ggX11_deed_X2_isFull
set_option maxRecDepth 20000 in
theorem ggX11_deed_X2_write : GoodIn wsX11_deed wsX2_write := goodIn_r _ [14, 15, 10, 16, 17, 18, 7, 8, 4, 9, 33, 34, 35, 36, 37, 38, 39, 40, 41, 42, 43, 44, 45] rfl (by decide +kernel)
set_option maxRecDepth 20000 in
theorem gX11_deed_X2_write : GoodIn wsX11_deed (wsV RX11 233 RX2 yX2_write wsX2_write) := goodIn_app (goodIn_of _ (by decide +kernel)) ggX11_deed_X2_write
theorem dX11_deed_0 : decode cX11_deed 0 = .ok (.iload_n 1, 1) := kd_r kbX11_deed ki_8 rfl
theorem dX11_deed_1 : decode cX11_deed 1 = .ok (.bipush 10, 2) := kd_r kbX11_deed ki_71 rfl
theorem dX11_deed_3 : decode cX11_deed 3 = .ok (.idiv, 1) := kd_r kbX11_deed ki_225 rfl
theorem dX11_deed_4 : decode cX11_deed 4 = .ok (.istore_n 3, 1) := kd_r kbX11_deed ki_108 rfl
theorem dX11_deed_5 : decode cX11_deed 5 = .ok (.iload_n 1, 1) := kd_r kbX11_deed ki_8 rfl
theorem dX11_deed_6 : decode cX11_deed 6 = .ok (.bipush 10, 2) := kd_r kbX11_deed ki_71 rfl
theorem dX11_deed_8 : decode cX11_deed 8 = .ok (.irem, 1) := kd_r kbX11_deed ki_227 rfl
theorem dX11_deed_9 : decode cX11_deed 9 = .ok (.istore 4, 2) := kd_r kbX11_deed ki_129 rfl
theorem dX11_deed_11 : decode cX11_deed 11 = .ok (.iload_n 1, 1) := kd_r kbX11_deed ki_8 rfl
theorem dX11_deed_12 : decode cX11_deed 12 = .ok (.ifCond .lt 35, 3) := kd_r kbX11_deed ki_618 rfl
theorem dX11_deed_15 : decode cX11_deed 15 = .ok (.iload_n 3, 1) := kd_r kbX11_deed ki_55 rfl
theorem dX11_deed_16 : decode cX11_deed 16 = .ok (.invokestatic 229, 3) := kd_r kbX11_deed ki_619 rfl
theorem dX11_deed_19 : decode cX11_deed 19 = .ok (.ifCond .eq 28, 3) := kd_r kbX11_deed ki_401 rfl
theorem dX11_deed_22 : decode cX11_deed 22 = .ok (.iload 4, 2) := kd_r kbX11_deed ki_57 rfl
theorem dX11_deed_24 : decode cX11_deed 24 = .ok (.invokestatic 229, 3) := kd_r kbX11_deed ki_619 rfl
theorem dX11_deed_27 : decode cX11_deed 27 = .ok (.ifCond .eq 20, 3) := kd_r kbX11_deed ki_12 rfl
theorem dX11_deed_30 : decode cX11_deed 30 = .ok (.iload_n 3, 1) := kd_r kbX11_deed ki_55 rfl
theorem dX11_deed_31 : decode cX11_deed 31 = .ok (.iload 4, 2) := kd_r kbX11_deed ki_57 rfl
theorem dX11_deed_33 : decode cX11_deed 33 = .ok (.if_icmp .eq 14, 3) := kd_r kbX11_deed ki_620 rfl
theorem dX11_deed_36 : decode cX11_deed 36 = .ok (.iload_n 2, 1) := kd_r kbX11_deed ki_11 rfl
theorem dX11_deed_37 : decode cX11_deed 37 = .ok (.ifCond .lt 10, 3) := kd_r kbX11_deed ki_621 rfl
theorem dX11_deed_40 : decode cX11_deed 40 = .ok (.iload_n 2, 1) := kd_r kbX11_deed ki_11 rfl
theorem dX11_deed_41 : decode cX11_deed 41 = .ok (.sipush 999, 3) := kd_r kbX11_deed ki_404 rfl
theorem dX11_deed_44 : decode cX11_deed 44 = .ok (.if_icmp .le 5, 3) := kd_r kbX11_deed ki_106 rfl
theorem dX11_deed_47 : decode cX11_deed 47 = .ok (.iconst (-1), 1) := kd_r kbX11_deed ki_99 rfl
theorem dX11_deed_48 : decode cX11_deed 48 = .ok (.ireturn, 1) := kd_r kbX11_deed ki_7 rfl
theorem dX11_deed_49 : decode cX11_deed 49 = .ok (.aload_n 0, 1) := kd_r kbX11_deed ki_0 rfl
theorem dX11_deed_50 : decode cX11_deed 50 = .ok (.getfield 58, 3) := kd_r kbX11_deed ki_622 rfl
theorem dX11_deed_53 : decode cX11_deed 53 = .ok (.invokevirtual 232, 3) := kd_r kbX11_deed ki_623 rfl
theorem dX11_deed_56 : decode cX11_deed 56 = .ok (.ifCond .eq 8, 3) := kd_r kbX11_deed ki_624 rfl
theorem dX11_deed_59 : decode cX11_deed 59 = .ok (.bipush (-3), 2) := kd_r kbX11_deed ki_293 rfl
theorem dX11_deed_61 : decode cX11_deed 61 = .ok (.goto 14, 3) := kd_r kbX11_deed ki_625 rfl
theorem dX11_deed_64 : decode cX11_deed 64 = .ok (.aload_n 0, 1) := kd_r kbX11_deed ki_0 rfl
theorem dX11_deed_65 : decode cX11_deed 65 = .ok (.getfield 58, 3) := kd_r kbX11_deed ki_622 rfl
theorem dX11_deed_68 : decode cX11_deed 68 = .ok (.iload_n 3, 1) := kd_r kbX11_deed ki_55 rfl
theorem dX11_deed_69 : decode cX11_deed 69 = .ok (.iload 4, 2) := kd_r kbX11_deed ki_57 rfl
theorem dX11_deed_71 : decode cX11_deed 71 = .ok (.iload_n 2, 1) := kd_r kbX11_deed ki_11 rfl
theorem dX11_deed_72 : decode cX11_deed 72 = .ok (.invokevirtual 233, 3) := kd_r kbX11_deed ki_626 rfl
theorem dX11_deed_75 : decode cX11_deed 75 = .ok (.ireturn, 1) := kd_r kbX11_deed ki_7 rfl
set_option maxRecDepth 20000 in
theorem ggX11_stands_X2_isName : GoodIn wsX11_stands wsX2_isName := goodIn_r _ [5] rfl (by decide +kernel)
set_option maxRecDepth 20000 in
theorem gX11_stands_X2_isName : GoodIn wsX11_stands (va_wsS RX11 229 yX2_isName wsX2_isName) := goodIn_app (goodIn_of _ (by decide +kernel)) ggX11_stands_X2_isName
set_option maxRecDepth 20000 in
theorem ggX11_stands_X2_isFull : GoodIn wsX11_stands wsX2_isFull := goodIn_r _ [9, 10, 33, 34, 35, 36, 37, 38, 39, 40, 41, 42, 43, 44, 45] rfl (by decide +kernel)
set_option maxRecDepth 20000 in
theorem gX11_stands_X2_isFull : GoodIn wsX11_stands (wsV RX11 232 RX2 yX2_isFull wsX2_isFull) := goodIn_app (goodIn_of _ (by decide +kernel)) ggX11_stands_X2_isFull
set_option maxRecDepth 20000 in
theorem ggX11_stands_X2_write : GoodIn wsX11_stands wsX2_write := goodIn_r _ [14, 15, 10, 16, 17, 18, 7, 8, 4, 9, 33, 34, 35, 36, 37, 38, 39, 40, 41, 42, 43, 44, 45] rfl (by decide +kernel)
set_option maxRecDepth 20000 in
theorem gX11_stands_X2_write : GoodIn wsX11_stands (wsV RX11 233 RX2 yX2_write wsX2_write) := goodIn_app (goodIn_of _ (by decide +kernel)) ggX11_stands_X2_write
theorem dX11_stands_0 : decode cX11_stands 0 = .ok (.iload_n 1, 1) := kd_r kbX11_stands ki_8 rfl
theorem dX11_stands_1 : decode cX11_stands 1 = .ok (.invokestatic 229, 3) := kd_r kbX11_stands ki_619 rfl
theorem dX11_stands_4 : decode cX11_stands 4 = .ok (.ifCond .eq 13, 3) := kd_r kbX11_stands ki_413 rfl
theorem dX11_stands_7 : decode cX11_stands 7 = .ok (.iload_n 2, 1) := kd_r kbX11_stands ki_11 rfl
theorem dX11_stands_8 : decode cX11_stands 8 = .ok (.ifCond .lt 9, 3) := kd_r kbX11_stands ki_572 rfl
theorem dX11_stands_11 : decode cX11_stands 11 = .ok (.iload_n 2, 1) := kd_r kbX11_stands ki_11 rfl
theorem dX11_stands_12 : decode cX11_stands 12 = .ok (.bipush 40, 2) := kd_r kbX11_stands ki_44 rfl
theorem dX11_stands_14 : decode cX11_stands 14 = .ok (.if_icmp .lt 5, 3) := kd_r kbX11_stands ki_193 rfl
theorem dX11_stands_17 : decode cX11_stands 17 = .ok (.iconst (-1), 1) := kd_r kbX11_stands ki_99 rfl
theorem dX11_stands_18 : decode cX11_stands 18 = .ok (.ireturn, 1) := kd_r kbX11_stands ki_7 rfl
theorem dX11_stands_19 : decode cX11_stands 19 = .ok (.aload_n 0, 1) := kd_r kbX11_stands ki_0 rfl
theorem dX11_stands_20 : decode cX11_stands 20 = .ok (.getfield 58, 3) := kd_r kbX11_stands ki_622 rfl
theorem dX11_stands_23 : decode cX11_stands 23 = .ok (.invokevirtual 232, 3) := kd_r kbX11_stands ki_623 rfl
theorem dX11_stands_26 : decode cX11_stands 26 = .ok (.ifCond .eq 8, 3) := kd_r kbX11_stands ki_624 rfl
theorem dX11_stands_29 : decode cX11_stands 29 = .ok (.bipush (-3), 2) := kd_r kbX11_stands ki_293 rfl
theorem dX11_stands_31 : decode cX11_stands 31 = .ok (.goto 13, 3) := kd_r kbX11_stands ki_574 rfl
theorem dX11_stands_34 : decode cX11_stands 34 = .ok (.aload_n 0, 1) := kd_r kbX11_stands ki_0 rfl
theorem dX11_stands_35 : decode cX11_stands 35 = .ok (.getfield 58, 3) := kd_r kbX11_stands ki_622 rfl
theorem dX11_stands_38 : decode cX11_stands 38 = .ok (.iload_n 1, 1) := kd_r kbX11_stands ki_8 rfl
theorem dX11_stands_39 : decode cX11_stands 39 = .ok (.iconst (-1), 1) := kd_r kbX11_stands ki_99 rfl
theorem dX11_stands_40 : decode cX11_stands 40 = .ok (.iload_n 2, 1) := kd_r kbX11_stands ki_11 rfl
theorem dX11_stands_41 : decode cX11_stands 41 = .ok (.invokevirtual 233, 3) := kd_r kbX11_stands ki_626 rfl
theorem dX11_stands_44 : decode cX11_stands 44 = .ok (.ireturn, 1) := kd_r kbX11_stands ki_7 rfl
set_option maxRecDepth 20000 in
theorem ggX11_burn_X2_clear : GoodIn wsX11_burn wsX2_clear := goodIn_r _ [6, 7, 22, 23, 24, 25, 26, 27, 28, 29, 30, 31, 32, 33, 34] rfl (by decide +kernel)
set_option maxRecDepth 20000 in
theorem gX11_burn_X2_clear : GoodIn wsX11_burn (wsV RX11 237 RX2 yX2_clear wsX2_clear) := goodIn_app (goodIn_of _ (by decide +kernel)) ggX11_burn_X2_clear
theorem dX11_burn_0 : decode cX11_burn 0 = .ok (.aload_n 0, 1) := kd_r kbX11_burn ki_0 rfl
theorem dX11_burn_1 : decode cX11_burn 1 = .ok (.getfield 58, 3) := kd_r kbX11_burn ki_622 rfl
theorem dX11_burn_4 : decode cX11_burn 4 = .ok (.invokevirtual 237, 3) := kd_r kbX11_burn ki_627 rfl
theorem dX11_burn_7 : decode cX11_burn 7 = .ok (.ireturn, 1) := kd_r kbX11_burn ki_7 rfl
set_option maxRecDepth 20000 in
theorem ggX11_all_X11_knownStreet : GoodIn wsX11_all wsX11_knownStreet := goodIn_r _ [6, 7, 8, 110, 111, 112, 113, 114, 115, 116, 117, 118, 119, 120, 121, 122, 123] rfl (by decide +kernel)
set_option maxRecDepth 20000 in
theorem gX11_all_X11_knownStreet : GoodIn wsX11_all (wsV RX11 94 RX11 yX11_knownStreet wsX11_knownStreet) := goodIn_app (goodIn_of _ (by decide +kernel)) ggX11_all_X11_knownStreet
set_option maxRecDepth 20000 in
theorem ggX11_all_X2_mention : GoodIn wsX11_all wsX2_mention := goodIn_r _ [13, 14, 15, 16, 124, 125, 126, 127, 128, 129, 130, 131, 132, 133, 134, 135, 136] rfl (by decide +kernel)
set_option maxRecDepth 20000 in
theorem gX11_all_X2_mention : GoodIn wsX11_all (wsV RX11 240 RX2 yX2_mention wsX2_mention) := goodIn_app (goodIn_of _ (by decide +kernel)) ggX11_all_X2_mention
set_option maxRecDepth 20000 in
theorem ggX11_all_X2_gatherNames : GoodIn wsX11_all wsX2_gatherNames := goodIn_r _ [20, 21, 22, 23, 10, 11, 12, 13, 14, 15, 16, 124, 125, 126, 127, 128, 129, 130, 131, 132, 133, 134, 135, 136] rfl (by decide +kernel)
set_option maxRecDepth 20000 in
theorem gX11_all_X2_gatherNames : GoodIn wsX11_all (wsV RX11 243 RX2 yX2_gatherNames wsX2_gatherNames) := goodIn_app (goodIn_of _ (by decide +kernel)) ggX11_all_X2_gatherNames
set_option maxRecDepth 20000 in
theorem ggX11_all_X2_putTogether : GoodIn wsX11_all wsX2_putTogether := goodIn_r _ [27, 28, 29, 30, 31, 32, 33, 21, 14, 16, 15, 34, 35, 36, 37, 38, 39, 40, 41, 42, 43, 12, 44, 45, 46, 47, 48, 49, 50, 51, 52, 53, 54, 55, 56, 57, 22, 58, 59, 60, 61, 62, 63, 64, 65, 66, 67, 68, 69, 70, 71, 72, 73, 74, 75, 76, 77, 78, 79, 80, 81, 82, 83, 84, 85, 86, 87, 88, 89, 90, 91, 92, 93, 94, 95, 96, 97, 98, 99, 100, 101, 102, 103, 104, 105, 124, 125, 126, 127, 128, 129, 130, 131, 132, 133, 134, 135, 136, 137, 138, 139, 140] rfl (by decide +kernel)
set_option maxRecDepth 20000 in
theorem gX11_all_X2_putTogether : GoodIn wsX11_all (wsV RX11 246 RX2 yX2_putTogether wsX2_putTogether) := goodIn_app (goodIn_of _ (by decide +kernel)) ggX11_all_X2_putTogether
set_option maxRecDepth 20000 in
theorem ggX11_all_X2_foundPlot : GoodIn wsX11_all wsX2_foundPlot := goodIn_r _ [109, 82, 54, 55, 56, 12, 57, 22, 58, 59, 60, 124, 125, 126, 127, 128, 129, 130, 131, 132, 133, 134, 135, 136] rfl (by decide +kernel)
set_option maxRecDepth 20000 in
theorem gX11_all_X2_foundPlot : GoodIn wsX11_all (wsV RX11 250 RX2 yX2_foundPlot wsX2_foundPlot) := goodIn_app (goodIn_of _ (by decide +kernel)) ggX11_all_X2_foundPlot
theorem dX11_all_0 : decode cX11_all 0 = .ok (.aload_n 0, 1) := kd_r kbX11_all ki_0 rfl
theorem dX11_all_1 : decode cX11_all 1 = .ok (.iload_n 1, 1) := kd_r kbX11_all ki_8 rfl
theorem dX11_all_2 : decode cX11_all 2 = .ok (.invokevirtual 94, 3) := kd_r kbX11_all ki_524 rfl
theorem dX11_all_5 : decode cX11_all 5 = .ok (.astore 4, 2) := kd_r kbX11_all ki_525 rfl
theorem dX11_all_7 : decode cX11_all 7 = .ok (.aload 4, 2) := kd_r kbX11_all ki_526 rfl
theorem dX11_all_9 : decode cX11_all 9 = .ok (.ifnull 33, 3) := kd_r kbX11_all ki_628 rfl
theorem dX11_all_12 : decode cX11_all 12 = .ok (.iload_n 2, 1) := kd_r kbX11_all ki_11 rfl
theorem dX11_all_13 : decode cX11_all 13 = .ok (.ifCond .lt 29, 3) := kd_r kbX11_all ki_391 rfl
theorem dX11_all_16 : decode cX11_all 16 = .ok (.iload_n 2, 1) := kd_r kbX11_all ki_11 rfl
theorem dX11_all_17 : decode cX11_all 17 = .ok (.bipush 99, 2) := kd_r kbX11_all ki_411 rfl
theorem dX11_all_19 : decode cX11_all 19 = .ok (.if_icmp .gt 23, 3) := kd_r kbX11_all ki_629 rfl
theorem dX11_all_22 : decode cX11_all 22 = .ok (.iload_n 3, 1) := kd_r kbX11_all ki_55 rfl
theorem dX11_all_23 : decode cX11_all 23 = .ok (.iconst (-1), 1) := kd_r kbX11_all ki_99 rfl
theorem dX11_all_24 : decode cX11_all 24 = .ok (.if_icmp .lt 18, 3) := kd_r kbX11_all ki_630 rfl
theorem dX11_all_27 : decode cX11_all 27 = .ok (.iload_n 3, 1) := kd_r kbX11_all ki_55 rfl
theorem dX11_all_28 : decode cX11_all 28 = .ok (.ifCond .lt 16, 3) := kd_r kbX11_all ki_631 rfl
theorem dX11_all_31 : decode cX11_all 31 = .ok (.aload_n 0, 1) := kd_r kbX11_all ki_0 rfl
theorem dX11_all_32 : decode cX11_all 32 = .ok (.getfield 58, 3) := kd_r kbX11_all ki_622 rfl
theorem dX11_all_35 : decode cX11_all 35 = .ok (.iload_n 3, 1) := kd_r kbX11_all ki_55 rfl
theorem dX11_all_36 : decode cX11_all 36 = .ok (.invokevirtual 240, 3) := kd_r kbX11_all ki_632 rfl
theorem dX11_all_39 : decode cX11_all 39 = .ok (.ifCond .ne 5, 3) := kd_r kbX11_all ki_36 rfl
theorem dX11_all_42 : decode cX11_all 42 = .ok (.iconst (-1), 1) := kd_r kbX11_all ki_99 rfl
theorem dX11_all_43 : decode cX11_all 43 = .ok (.ireturn, 1) := kd_r kbX11_all ki_7 rfl
theorem dX11_all_44 : decode cX11_all 44 = .ok (.aload_n 0, 1) := kd_r kbX11_all ki_0 rfl
theorem dX11_all_45 : decode cX11_all 45 = .ok (.getfield 58, 3) := kd_r kbX11_all ki_622 rfl
theorem dX11_all_48 : decode cX11_all 48 = .ok (.invokevirtual 243, 3) := kd_r kbX11_all ki_633 rfl
theorem dX11_all_51 : decode cX11_all 51 = .ok (.istore 5, 2) := kd_r kbX11_all ki_133 rfl
theorem dX11_all_53 : decode cX11_all 53 = .ok (.iload 5, 2) := kd_r kbX11_all ki_134 rfl
theorem dX11_all_55 : decode cX11_all 55 = .ok (.iconst 5, 1) := kd_r kbX11_all ki_79 rfl
theorem dX11_all_56 : decode cX11_all 56 = .ok (.if_icmp .le 6, 3) := kd_r kbX11_all ki_425 rfl
theorem dX11_all_59 : decode cX11_all 59 = .ok (.bipush (-4), 2) := kd_r kbX11_all ki_634 rfl
theorem dX11_all_61 : decode cX11_all 61 = .ok (.ireturn, 1) := kd_r kbX11_all ki_7 rfl
theorem dX11_all_62 : decode cX11_all 62 = .ok (.iload 5, 2) := kd_r kbX11_all ki_134 rfl
theorem dX11_all_64 : decode cX11_all 64 = .ok (.ifCond .ne 6, 3) := kd_r kbX11_all ki_388 rfl
theorem dX11_all_67 : decode cX11_all 67 = .ok (.bipush (-5), 2) := kd_r kbX11_all ki_635 rfl
theorem dX11_all_69 : decode cX11_all 69 = .ok (.ireturn, 1) := kd_r kbX11_all ki_7 rfl
theorem dX11_all_70 : decode cX11_all 70 = .ok (.aload_n 0, 1) := kd_r kbX11_all ki_0 rfl
theorem dX11_all_71 : decode cX11_all 71 = .ok (.getfield 58, 3) := kd_r kbX11_all ki_622 rfl
theorem dX11_all_74 : decode cX11_all 74 = .ok (.aload 4, 2) := kd_r kbX11_all ki_526 rfl
theorem dX11_all_76 : decode cX11_all 76 = .ok (.iload_n 2, 1) := kd_r kbX11_all ki_11 rfl
theorem dX11_all_77 : decode cX11_all 77 = .ok (.invokevirtual 246, 3) := kd_r kbX11_all ki_636 rfl
theorem dX11_all_80 : decode cX11_all 80 = .ok (.istore 6, 2) := kd_r kbX11_all ki_199 rfl
theorem dX11_all_82 : decode cX11_all 82 = .ok (.iload 6, 2) := kd_r kbX11_all ki_200 rfl
theorem dX11_all_84 : decode cX11_all 84 = .ok (.ifCond .ne 6, 3) := kd_r kbX11_all ki_388 rfl
theorem dX11_all_87 : decode cX11_all 87 = .ok (.bipush (-2), 2) := kd_r kbX11_all ki_39 rfl
theorem dX11_all_89 : decode cX11_all 89 = .ok (.ireturn, 1) := kd_r kbX11_all ki_7 rfl
theorem dX11_all_90 : decode cX11_all 90 = .ok (.iload_n 3, 1) := kd_r kbX11_all ki_55 rfl
theorem dX11_all_91 : decode cX11_all 91 = .ok (.ifCond .ge 8, 3) := kd_r kbX11_all ki_637 rfl
theorem dX11_all_94 : decode cX11_all 94 = .ok (.iload 6, 2) := kd_r kbX11_all ki_200 rfl
theorem dX11_all_96 : decode cX11_all 96 = .ok (.goto 11, 3) := kd_r kbX11_all ki_240 rfl
theorem dX11_all_99 : decode cX11_all 99 = .ok (.aload_n 0, 1) := kd_r kbX11_all ki_0 rfl
theorem dX11_all_100 : decode cX11_all 100 = .ok (.getfield 58, 3) := kd_r kbX11_all ki_622 rfl
theorem dX11_all_103 : decode cX11_all 103 = .ok (.iload_n 3, 1) := kd_r kbX11_all ki_55 rfl
theorem dX11_all_104 : decode cX11_all 104 = .ok (.invokevirtual 250, 3) := kd_r kbX11_all ki_638 rfl
theorem dX11_all_107 : decode cX11_all 107 = .ok (.ireturn, 1) := kd_r kbX11_all ki_7 rfl
set_option maxRecDepth 20000 in
theorem ggX11_feed_X10_hasRoomFor : GoodIn wsX11_feed wsX10_hasRoomFor := goodIn_r _ [6, 7, 27, 28, 29, 30] rfl (by decide +kernel)
set_option maxRecDepth 20000 in
theorem gX11_feed_X10_hasRoomFor : GoodIn wsX11_feed (wsV RX11 253 RX10 yX10_hasRoomFor wsX10_hasRoomFor) := goodIn_app (goodIn_of _ (by decide +kernel)) ggX11_feed_X10_hasRoomFor
set_option maxRecDepth 20000 in
theorem ggX11_feed_X10_take : GoodIn wsX11_feed wsX10_take := goodIn_r _ [11, 7, 12, 27, 28, 29, 30] rfl (by decide +kernel)
set_option maxRecDepth 20000 in
theorem gX11_feed_X10_take : GoodIn wsX11_feed (wsV RX11 256 RX10 yX10_take wsX10_take) := goodIn_app (goodIn_of _ (by decide +kernel)) ggX11_feed_X10_take
theorem dX11_feed_0 : decode cX11_feed 0 = .ok (.iload_n 1, 1) := kd_r kbX11_feed ki_8 rfl
theorem dX11_feed_1 : decode cX11_feed 1 = .ok (.iconst 1, 1) := kd_r kbX11_feed ki_16 rfl
theorem dX11_feed_2 : decode cX11_feed 2 = .ok (.if_icmp .lt 8, 3) := kd_r kbX11_feed ki_588 rfl
theorem dX11_feed_5 : decode cX11_feed 5 = .ok (.iload_n 1, 1) := kd_r kbX11_feed ki_8 rfl
theorem dX11_feed_6 : decode cX11_feed 6 = .ok (.iconst 4, 1) := kd_r kbX11_feed ki_247 rfl
theorem dX11_feed_7 : decode cX11_feed 7 = .ok (.if_icmp .le 5, 3) := kd_r kbX11_feed ki_106 rfl
theorem dX11_feed_10 : decode cX11_feed 10 = .ok (.iconst (-1), 1) := kd_r kbX11_feed ki_99 rfl
theorem dX11_feed_11 : decode cX11_feed 11 = .ok (.ireturn, 1) := kd_r kbX11_feed ki_7 rfl
theorem dX11_feed_12 : decode cX11_feed 12 = .ok (.aload_n 0, 1) := kd_r kbX11_feed ki_0 rfl
theorem dX11_feed_13 : decode cX11_feed 13 = .ok (.getfield 65, 3) := kd_r kbX11_feed ki_639 rfl
theorem dX11_feed_16 : decode cX11_feed 16 = .ok (.iload_n 1, 1) := kd_r kbX11_feed ki_8 rfl
theorem dX11_feed_17 : decode cX11_feed 17 = .ok (.invokevirtual 253, 3) := kd_r kbX11_feed ki_640 rfl
theorem dX11_feed_20 : decode cX11_feed 20 = .ok (.ifCond .eq 15, 3) := kd_r kbX11_feed ki_641 rfl
theorem dX11_feed_23 : decode cX11_feed 23 = .ok (.aload_n 0, 1) := kd_r kbX11_feed ki_0 rfl
theorem dX11_feed_24 : decode cX11_feed 24 = .ok (.getfield 65, 3) := kd_r kbX11_feed ki_639 rfl
theorem dX11_feed_27 : decode cX11_feed 27 = .ok (.iload_n 1, 1) := kd_r kbX11_feed ki_8 rfl
theorem dX11_feed_28 : decode cX11_feed 28 = .ok (.iload_n 2, 1) := kd_r kbX11_feed ki_11 rfl
theorem dX11_feed_29 : decode cX11_feed 29 = .ok (.invokevirtual 256, 3) := kd_r kbX11_feed ki_642 rfl
theorem dX11_feed_32 : decode cX11_feed 32 = .ok (.goto 5, 3) := kd_r kbX11_feed ki_342 rfl
theorem dX11_feed_35 : decode cX11_feed 35 = .ok (.bipush (-3), 2) := kd_r kbX11_feed ki_293 rfl
theorem dX11_feed_37 : decode cX11_feed 37 = .ok (.ireturn, 1) := kd_r kbX11_feed ki_7 rfl
set_option maxRecDepth 20000 in
theorem ggX11_law_X10_readInto : GoodIn wsX11_law wsX10_readInto := goodIn_r _ [8, 9, 10, 11, 12, 13, 14, 15, 16, 17, 18, 19, 20, 7, 21, 22, 23, 24, 25, 26, 27, 28, 29, 30, 31, 32, 33, 34, 35, 36, 37, 38, 39, 40, 41, 42, 43, 44, 45, 46, 47, 48, 49, 50, 51, 52, 53, 54, 55, 56, 57, 58, 59, 60, 61, 80, 81, 82, 83, 84, 85, 86, 87, 88] rfl (by decide +kernel)
set_option maxRecDepth 20000 in
theorem gX11_law_X10_readInto : GoodIn wsX11_law (wsV RX11 262 RX10 yX10_readInto wsX10_readInto) := goodIn_app (goodIn_of _ (by decide +kernel)) ggX11_law_X10_readInto
set_option maxRecDepth 20000 in
theorem ggX11_law_X10_clear : GoodIn wsX11_law wsX10_clear := goodIn_r _ [65, 11, 80, 81, 82, 83] rfl (by decide +kernel)
set_option maxRecDepth 20000 in
theorem gX11_law_X10_clear : GoodIn wsX11_law (wsV RX11 266 RX10 yX10_clear wsX10_clear) := goodIn_app (goodIn_of _ (by decide +kernel)) ggX11_law_X10_clear
theorem dX11_law_0 : decode cX11_law 0 = .ok (.aload_n 0, 1) := kd_r kbX11_law ki_0 rfl
theorem dX11_law_1 : decode cX11_law 1 = .ok (.getfield 259, 3) := kd_r kbX11_law ki_643 rfl
theorem dX11_law_4 : decode cX11_law 4 = .ok (.aload_n 0, 1) := kd_r kbX11_law ki_0 rfl
theorem dX11_law_5 : decode cX11_law 5 = .ok (.getfield 71, 3) := kd_r kbX11_law ki_516 rfl
theorem dX11_law_8 : decode cX11_law 8 = .ok (.arraylength, 1) := kd_r kbX11_law ki_33 rfl
theorem dX11_law_9 : decode cX11_law 9 = .ok (.if_icmp .lt 6, 3) := kd_r kbX11_law ki_644 rfl
theorem dX11_law_12 : decode cX11_law 12 = .ok (.bipush (-3), 2) := kd_r kbX11_law ki_293 rfl
theorem dX11_law_14 : decode cX11_law 14 = .ok (.ireturn, 1) := kd_r kbX11_law ki_7 rfl
theorem dX11_law_15 : decode cX11_law 15 = .ok (.aload_n 0, 1) := kd_r kbX11_law ki_0 rfl
theorem dX11_law_16 : decode cX11_law 16 = .ok (.getfield 65, 3) := kd_r kbX11_law ki_639 rfl
theorem dX11_law_19 : decode cX11_law 19 = .ok (.aload_n 0, 1) := kd_r kbX11_law ki_0 rfl
theorem dX11_law_20 : decode cX11_law 20 = .ok (.getfield 71, 3) := kd_r kbX11_law ki_516 rfl
theorem dX11_law_23 : decode cX11_law 23 = .ok (.aload_n 0, 1) := kd_r kbX11_law ki_0 rfl
theorem dX11_law_24 : decode cX11_law 24 = .ok (.getfield 259, 3) := kd_r kbX11_law ki_643 rfl
theorem dX11_law_27 : decode cX11_law 27 = .ok (.aaload, 1) := kd_r kbX11_law ki_137 rfl
theorem dX11_law_28 : decode cX11_law 28 = .ok (.invokevirtual 262, 3) := kd_r kbX11_law ki_645 rfl
theorem dX11_law_31 : decode cX11_law 31 = .ok (.istore_n 1, 1) := kd_r kbX11_law ki_60 rfl
theorem dX11_law_32 : decode cX11_law 32 = .ok (.aload_n 0, 1) := kd_r kbX11_law ki_0 rfl
theorem dX11_law_33 : decode cX11_law 33 = .ok (.getfield 65, 3) := kd_r kbX11_law ki_639 rfl
theorem dX11_law_36 : decode cX11_law 36 = .ok (.invokevirtual 266, 3) := kd_r kbX11_law ki_646 rfl
theorem dX11_law_39 : decode cX11_law 39 = .ok (.iload_n 1, 1) := kd_r kbX11_law ki_8 rfl
theorem dX11_law_40 : decode cX11_law 40 = .ok (.iconst (-1), 1) := kd_r kbX11_law ki_99 rfl
theorem dX11_law_41 : decode cX11_law 41 = .ok (.if_icmp .ne 17, 3) := kd_r kbX11_law ki_647 rfl
theorem dX11_law_44 : decode cX11_law 44 = .ok (.aload_n 0, 1) := kd_r kbX11_law ki_0 rfl
theorem dX11_law_45 : decode cX11_law 45 = .ok (.dup, 1) := kd_r kbX11_law ki_29 rfl
theorem dX11_law_46 : decode cX11_law 46 = .ok (.getfield 259, 3) := kd_r kbX11_law ki_643 rfl
theorem dX11_law_49 : decode cX11_law 49 = .ok (.dup_x1, 1) := kd_r kbX11_law ki_98 rfl
theorem dX11_law_50 : decode cX11_law 50 = .ok (.iconst 1, 1) := kd_r kbX11_law ki_16 rfl
theorem dX11_law_51 : decode cX11_law 51 = .ok (.iadd, 1) := kd_r kbX11_law ki_30 rfl
theorem dX11_law_52 : decode cX11_law 52 = .ok (.putfield 259, 3) := kd_r kbX11_law ki_648 rfl
theorem dX11_law_55 : decode cX11_law 55 = .ok (.goto 7, 3) := kd_r kbX11_law ki_416 rfl
theorem dX11_law_58 : decode cX11_law 58 = .ok (.bipush (-100), 2) := kd_r kbX11_law ki_649 rfl
theorem dX11_law_60 : decode cX11_law 60 = .ok (.iload_n 1, 1) := kd_r kbX11_law ki_8 rfl
theorem dX11_law_61 : decode cX11_law 61 = .ok (.isub, 1) := kd_r kbX11_law ki_50 rfl
theorem dX11_law_62 : decode cX11_law 62 = .ok (.ireturn, 1) := kd_r kbX11_law ki_7 rfl
set_option maxRecDepth 20000 in
theorem ggX11_town_X11_knownLaw : GoodIn wsX11_town wsX11_knownLaw := goodIn_r _ [7, 8, 9, 130, 131, 132, 133, 134, 135, 136, 137, 138, 139, 140, 141, 142, 143] rfl (by decide +kernel)
set_option maxRecDepth 20000 in
theorem gX11_town_X11_knownLaw : GoodIn wsX11_town (wsV RX11 268 RX11 yX11_knownLaw wsX11_knownLaw) := goodIn_app (goodIn_of _ (by decide +kernel)) ggX11_town_X11_knownLaw
set_option maxRecDepth 20000 in
theorem ggX11_town_X11_isTown : GoodIn wsX11_town wsX11_isTown := goodIn_r _ [12, 13] rfl (by decide +kernel)
set_option maxRecDepth 20000 in
theorem gX11_town_X11_isTown : GoodIn wsX11_town (va_wsS RX11 272 yX11_isTown wsX11_isTown) := goodIn_app (goodIn_of _ (by decide +kernel)) ggX11_town_X11_isTown
set_option maxRecDepth 20000 in
theorem ggX11_town_X4_lay : GoodIn wsX11_town wsX4_lay := goodIn_r _ [18, 19, 20, 21, 22, 23, 24, 25, 26, 27, 28, 29, 30, 31, 32, 33, 34, 35, 36, 37, 38, 39, 40, 41, 42, 43, 44, 6, 45, 46, 47, 48, 49, 17, 50, 51, 52, 53, 54, 55, 56, 57, 58, 59, 60, 61, 62, 63, 64, 65, 66, 67, 68, 69, 70, 71, 72, 73, 74, 75, 76, 77, 78, 79, 80, 81, 82, 83, 84, 85, 86, 87, 88, 89, 90, 91, 92, 93, 94, 95, 96, 97, 98, 99, 100, 101, 102, 103, 104, 105, 106, 107, 108, 109, 110, 111, 112, 113, 114, 115, 116, 117, 118, 119, 120, 121, 122, 123, 124, 125, 126, 127, 128, 129, 144, 145, 146, 147, 148, 149, 150, 151, 152] rfl (by decide +kernel)
set_option maxRecDepth 20000 in
theorem gX11_town_X4_lay : GoodIn wsX11_town (wsV RX11 275 RX4 yX4_lay wsX4_lay) := goodIn_app (goodIn_of _ (by decide +kernel)) ggX11_town_X4_lay
theorem dX11_town_0 : decode cX11_town 0 = .ok (.iload_n 2, 1) := kd_r kbX11_town ki_11 rfl
theorem dX11_town_1 : decode cX11_town 1 = .ok (.ifCond .ge 7, 3) := kd_r kbX11_town ki_382 rfl
theorem dX11_town_4 : decode cX11_town 4 = .ok (.aconst_null, 1) := kd_r kbX11_town ki_542 rfl
theorem dX11_town_5 : decode cX11_town 5 = .ok (.goto 11, 3) := kd_r kbX11_town ki_240 rfl
theorem dX11_town_8 : decode cX11_town 8 = .ok (.aload_n 0, 1) := kd_r kbX11_town ki_0 rfl
theorem dX11_town_9 : decode cX11_town 9 = .ok (.iload_n 2, 1) := kd_r kbX11_town ki_11 rfl
theorem dX11_town_10 : decode cX11_town 10 = .ok (.bipush 100, 2) := kd_r kbX11_town ki_228 rfl
theorem dX11_town_12 : decode cX11_town 12 = .ok (.idiv, 1) := kd_r kbX11_town ki_225 rfl
theorem dX11_town_13 : decode cX11_town 13 = .ok (.invokevirtual 268, 3) := kd_r kbX11_town ki_650 rfl
theorem dX11_town_16 : decode cX11_town 16 = .ok (.astore 4, 2) := kd_r kbX11_town ki_525 rfl
theorem dX11_town_18 : decode cX11_town 18 = .ok (.aload 4, 2) := kd_r kbX11_town ki_526 rfl
theorem dX11_town_20 : decode cX11_town 20 = .ok (.ifnull 19, 3) := kd_r kbX11_town ki_577 rfl
theorem dX11_town_23 : decode cX11_town 23 = .ok (.iload_n 1, 1) := kd_r kbX11_town ki_8 rfl
theorem dX11_town_24 : decode cX11_town 24 = .ok (.invokestatic 272, 3) := kd_r kbX11_town ki_651 rfl
theorem dX11_town_27 : decode cX11_town 27 = .ok (.ifCond .eq 12, 3) := kd_r kbX11_town ki_122 rfl
theorem dX11_town_30 : decode cX11_town 30 = .ok (.iload_n 2, 1) := kd_r kbX11_town ki_11 rfl
theorem dX11_town_31 : decode cX11_town 31 = .ok (.bipush 100, 2) := kd_r kbX11_town ki_228 rfl
theorem dX11_town_33 : decode cX11_town 33 = .ok (.irem, 1) := kd_r kbX11_town ki_227 rfl
theorem dX11_town_34 : decode cX11_town 34 = .ok (.bipush 60, 2) := kd_r kbX11_town ki_384 rfl
theorem dX11_town_36 : decode cX11_town 36 = .ok (.if_icmp .le 5, 3) := kd_r kbX11_town ki_106 rfl
theorem dX11_town_39 : decode cX11_town 39 = .ok (.iconst (-1), 1) := kd_r kbX11_town ki_99 rfl
theorem dX11_town_40 : decode cX11_town 40 = .ok (.ireturn, 1) := kd_r kbX11_town ki_7 rfl
theorem dX11_town_41 : decode cX11_town 41 = .ok (.aload_n 0, 1) := kd_r kbX11_town ki_0 rfl
theorem dX11_town_42 : decode cX11_town 42 = .ok (.getfield 90, 3) := kd_r kbX11_town ki_522 rfl
theorem dX11_town_45 : decode cX11_town 45 = .ok (.aload_n 0, 1) := kd_r kbX11_town ki_0 rfl
theorem dX11_town_46 : decode cX11_town 46 = .ok (.getfield 11, 3) := kd_r kbX11_town ki_86 rfl
theorem dX11_town_49 : decode cX11_town 49 = .ok (.arraylength, 1) := kd_r kbX11_town ki_33 rfl
theorem dX11_town_50 : decode cX11_town 50 = .ok (.if_icmp .lt 6, 3) := kd_r kbX11_town ki_644 rfl
theorem dX11_town_53 : decode cX11_town 53 = .ok (.bipush (-3), 2) := kd_r kbX11_town ki_293 rfl
theorem dX11_town_55 : decode cX11_town 55 = .ok (.ireturn, 1) := kd_r kbX11_town ki_7 rfl
theorem dX11_town_56 : decode cX11_town 56 = .ok (.aload 4, 2) := kd_r kbX11_town ki_526 rfl
theorem dX11_town_58 : decode cX11_town 58 = .ok (.aload_n 0, 1) := kd_r kbX11_town ki_0 rfl
theorem dX11_town_59 : decode cX11_town 59 = .ok (.getfield 11, 3) := kd_r kbX11_town ki_86 rfl
theorem dX11_town_62 : decode cX11_town 62 = .ok (.aload_n 0, 1) := kd_r kbX11_town ki_0 rfl
theorem dX11_town_63 : decode cX11_town 63 = .ok (.getfield 90, 3) := kd_r kbX11_town ki_522 rfl
theorem dX11_town_66 : decode cX11_town 66 = .ok (.aaload, 1) := kd_r kbX11_town ki_137 rfl
theorem dX11_town_67 : decode cX11_town 67 = .ok (.iload_n 1, 1) := kd_r kbX11_town ki_8 rfl
theorem dX11_town_68 : decode cX11_town 68 = .ok (.iload_n 2, 1) := kd_r kbX11_town ki_11 rfl
theorem dX11_town_69 : decode cX11_town 69 = .ok (.bipush 100, 2) := kd_r kbX11_town ki_228 rfl
theorem dX11_town_71 : decode cX11_town 71 = .ok (.irem, 1) := kd_r kbX11_town ki_227 rfl
theorem dX11_town_72 : decode cX11_town 72 = .ok (.iload_n 3, 1) := kd_r kbX11_town ki_55 rfl
theorem dX11_town_73 : decode cX11_town 73 = .ok (.invokevirtual 275, 3) := kd_r kbX11_town ki_652 rfl
theorem dX11_town_76 : decode cX11_town 76 = .ok (.aload_n 0, 1) := kd_r kbX11_town ki_0 rfl
theorem dX11_town_77 : decode cX11_town 77 = .ok (.dup, 1) := kd_r kbX11_town ki_29 rfl
theorem dX11_town_78 : decode cX11_town 78 = .ok (.getfield 90, 3) := kd_r kbX11_town ki_522 rfl
theorem dX11_town_81 : decode cX11_town 81 = .ok (.dup_x1, 1) := kd_r kbX11_town ki_98 rfl
theorem dX11_town_82 : decode cX11_town 82 = .ok (.iconst 1, 1) := kd_r kbX11_town ki_16 rfl
theorem dX11_town_83 : decode cX11_town 83 = .ok (.iadd, 1) := kd_r kbX11_town ki_30 rfl
theorem dX11_town_84 : decode cX11_town 84 = .ok (.putfield 90, 3) := kd_r kbX11_town ki_523 rfl
theorem dX11_town_87 : decode cX11_town 87 = .ok (.ireturn, 1) := kd_r kbX11_town ki_7 rfl
set_option maxRecDepth 20000 in
theorem ggX11_story_X11_knownStreet : GoodIn wsX11_story wsX11_knownStreet := goodIn_r _ [6, 7, 8, 148, 149, 150, 151, 152, 153, 154, 155, 156, 157, 158, 159, 160, 161] rfl (by decide +kernel)
set_option maxRecDepth 20000 in
theorem gX11_story_X11_knownStreet : GoodIn wsX11_story (wsV RX11 94 RX11 yX11_knownStreet wsX11_knownStreet) := goodIn_app (goodIn_of _ (by decide +kernel)) ggX11_story_X11_knownStreet
set_option maxRecDepth 20000 in
theorem ggX11_story_X11_isTown : GoodIn wsX11_story wsX11_isTown := goodIn_r _ [11, 12] rfl (by decide +kernel)
set_option maxRecDepth 20000 in
theorem gX11_story_X11_isTown : GoodIn wsX11_story (va_wsS RX11 272 yX11_isTown wsX11_isTown) := goodIn_app (goodIn_of _ (by decide +kernel)) ggX11_story_X11_isTown
set_option maxRecDepth 20000 in
theorem ggX11_story_X11_knownLaw : GoodIn wsX11_story wsX11_knownLaw := goodIn_r _ [16, 1, 17, 148, 149, 150, 151, 152, 153, 154, 155, 156, 157, 158, 159, 160, 161] rfl (by decide +kernel)
set_option maxRecDepth 20000 in
theorem gX11_story_X11_knownLaw : GoodIn wsX11_story (wsV RX11 268 RX11 yX11_knownLaw wsX11_knownLaw) := goodIn_app (goodIn_of _ (by decide +kernel)) ggX11_story_X11_knownLaw
set_option maxRecDepth 20000 in
theorem ggX11_story_X11_likeliestLaw : GoodIn wsX11_story wsX11_likeliestLaw := goodIn_r _ [21, 1, 13, 14, 15, 5, 16, 17, 22, 23, 24, 25, 26, 27, 28, 29, 30, 31, 32, 33, 34, 35, 36, 37, 38, 39, 40, 41, 42, 43, 44, 45, 46, 47, 48, 49, 50, 51, 52, 53, 54, 55, 56, 57, 58, 59, 60, 61, 62, 63, 64, 65, 66, 67, 68, 69, 70, 71, 72, 73, 74, 75, 76, 77, 78, 79, 80, 81, 82, 83, 84, 85, 86, 87, 88, 89, 90, 91, 92, 93, 94, 95, 96, 97, 98, 99, 100, 101, 102, 103, 104, 105, 106, 107, 108, 109, 110, 111, 112, 113, 114, 115, 116, 117, 118, 119, 120, 121, 122, 123, 124, 125, 126, 127, 128, 129, 130, 131, 132, 133, 134, 135, 136, 137, 138, 139, 140, 141, 142, 143, 144, 145, 146, 147, 148, 149, 150, 151, 152, 153, 154, 155, 156, 157, 158, 159, 160, 161, 162, 163, 164, 165, 166, 167, 168, 169, 170] rfl (by decide +kernel)
set_option maxRecDepth 20000 in
theorem gX11_story_X11_likeliestLaw : GoodIn wsX11_story (wsV RX11 279 RX11 yX11_likeliestLaw wsX11_likeliestLaw) := goodIn_app (goodIn_of _ (by decide +kernel)) ggX11_story_X11_likeliestLaw
set_option maxRecDepth 20000 in
theorem ggX11_story_X11_storySeeds : GoodIn wsX11_story wsX11_storySeeds := goodIn_r _ [25, 26, 27, 28, 29, 30, 31, 32, 33, 34, 35, 36, 37, 38, 39, 40, 41, 42, 43, 44, 45, 46, 47, 48, 49, 50, 51, 52, 53, 54, 55, 56, 57, 5, 58, 59, 60, 61, 62, 63, 64, 65, 66, 67, 68, 69, 70, 71, 72, 73, 74, 75, 76, 77, 78, 79, 80, 81, 82, 83, 84, 85, 86, 87, 88, 89, 90, 91, 92, 93, 94, 95, 96, 97, 98, 99, 100, 101, 102, 103, 104, 105, 106, 107, 108, 109, 110, 111, 112, 113, 114, 115, 116, 117, 118, 119, 120, 121, 122, 123, 124, 125, 126, 127, 128, 129, 130, 131, 132, 133, 134, 135, 136, 137, 138, 139, 140, 141, 142, 143, 144, 145, 146, 147, 148, 149, 150, 151, 152, 153, 154, 155, 156, 157, 158, 159, 160, 161, 162, 163, 164, 165, 166, 167, 168, 169, 170] rfl (by decide +kernel)
set_option maxRecDepth 20000 in
theorem gX11_story_X11_storySeeds : GoodIn wsX11_story (wsV RX11 283 RX11 yX11_storySeeds wsX11_storySeeds) := goodIn_app (goodIn_of _ (by decide +kernel)) ggX11_story_X11_storySeeds
theorem dX11_story_0 : decode cX11_story 0 = .ok (.aload_n 0, 1) := kd_r kbX11_story ki_0 rfl
theorem dX11_story_1 : decode cX11_story 1 = .ok (.iload_n 1, 1) := kd_r kbX11_story ki_8 rfl
theorem dX11_story_2 : decode cX11_story 2 = .ok (.invokevirtual 94, 3) := kd_r kbX11_story ki_524 rfl
theorem dX11_story_5 : decode cX11_story 5 = .ok (.astore 5, 2) := kd_r kbX11_story ki_150 rfl
theorem dX11_story_7 : decode cX11_story 7 = .ok (.aload 5, 2) := kd_r kbX11_story ki_160 rfl
theorem dX11_story_9 : decode cX11_story 9 = .ok (.ifnull 40, 3) := kd_r kbX11_story ki_653 rfl
theorem dX11_story_12 : decode cX11_story 12 = .ok (.iload_n 2, 1) := kd_r kbX11_story ki_11 rfl
theorem dX11_story_13 : decode cX11_story 13 = .ok (.invokestatic 272, 3) := kd_r kbX11_story ki_651 rfl
theorem dX11_story_16 : decode cX11_story 16 = .ok (.ifCond .eq 33, 3) := kd_r kbX11_story ki_412 rfl
theorem dX11_story_19 : decode cX11_story 19 = .ok (.iload_n 3, 1) := kd_r kbX11_story ki_55 rfl
theorem dX11_story_20 : decode cX11_story 20 = .ok (.ifCond .lt 29, 3) := kd_r kbX11_story ki_391 rfl
theorem dX11_story_23 : decode cX11_story 23 = .ok (.iload_n 3, 1) := kd_r kbX11_story ki_55 rfl
theorem dX11_story_24 : decode cX11_story 24 = .ok (.bipush 60, 2) := kd_r kbX11_story ki_384 rfl
theorem dX11_story_26 : decode cX11_story 26 = .ok (.if_icmp .gt 23, 3) := kd_r kbX11_story ki_629 rfl
theorem dX11_story_29 : decode cX11_story 29 = .ok (.iload 4, 2) := kd_r kbX11_story ki_57 rfl
theorem dX11_story_31 : decode cX11_story 31 = .ok (.iconst (-1), 1) := kd_r kbX11_story ki_99 rfl
theorem dX11_story_32 : decode cX11_story 32 = .ok (.if_icmp .lt 17, 3) := kd_r kbX11_story ki_654 rfl
theorem dX11_story_35 : decode cX11_story 35 = .ok (.iload 4, 2) := kd_r kbX11_story ki_57 rfl
theorem dX11_story_37 : decode cX11_story 37 = .ok (.ifCond .lt 14, 3) := kd_r kbX11_story ki_406 rfl
theorem dX11_story_40 : decode cX11_story 40 = .ok (.aload_n 0, 1) := kd_r kbX11_story ki_0 rfl
theorem dX11_story_41 : decode cX11_story 41 = .ok (.iload 4, 2) := kd_r kbX11_story ki_57 rfl
theorem dX11_story_43 : decode cX11_story 43 = .ok (.invokevirtual 268, 3) := kd_r kbX11_story ki_650 rfl
theorem dX11_story_46 : decode cX11_story 46 = .ok (.ifnonnull 5, 3) := kd_r kbX11_story ki_655 rfl
theorem dX11_story_49 : decode cX11_story 49 = .ok (.iconst (-1), 1) := kd_r kbX11_story ki_99 rfl
theorem dX11_story_50 : decode cX11_story 50 = .ok (.ireturn, 1) := kd_r kbX11_story ki_7 rfl
theorem dX11_story_51 : decode cX11_story 51 = .ok (.aload_n 0, 1) := kd_r kbX11_story ki_0 rfl
theorem dX11_story_52 : decode cX11_story 52 = .ok (.getfield 259, 3) := kd_r kbX11_story ki_643 rfl
theorem dX11_story_55 : decode cX11_story 55 = .ok (.ifCond .ne 6, 3) := kd_r kbX11_story ki_388 rfl
theorem dX11_story_58 : decode cX11_story 58 = .ok (.bipush (-5), 2) := kd_r kbX11_story ki_635 rfl
theorem dX11_story_60 : decode cX11_story 60 = .ok (.ireturn, 1) := kd_r kbX11_story ki_7 rfl
theorem dX11_story_61 : decode cX11_story 61 = .ok (.iload 4, 2) := kd_r kbX11_story ki_57 rfl
theorem dX11_story_63 : decode cX11_story 63 = .ok (.ifCond .ge 14, 3) := kd_r kbX11_story ki_656 rfl
theorem dX11_story_66 : decode cX11_story 66 = .ok (.aload_n 0, 1) := kd_r kbX11_story ki_0 rfl
theorem dX11_story_67 : decode cX11_story 67 = .ok (.aload 5, 2) := kd_r kbX11_story ki_160 rfl
theorem dX11_story_69 : decode cX11_story 69 = .ok (.iload_n 2, 1) := kd_r kbX11_story ki_11 rfl
theorem dX11_story_70 : decode cX11_story 70 = .ok (.iload_n 3, 1) := kd_r kbX11_story ki_55 rfl
theorem dX11_story_71 : decode cX11_story 71 = .ok (.invokevirtual 279, 3) := kd_r kbX11_story ki_657 rfl
theorem dX11_story_74 : decode cX11_story 74 = .ok (.goto 17, 3) := kd_r kbX11_story ki_658 rfl
theorem dX11_story_77 : decode cX11_story 77 = .ok (.aload_n 0, 1) := kd_r kbX11_story ki_0 rfl
theorem dX11_story_78 : decode cX11_story 78 = .ok (.aload 5, 2) := kd_r kbX11_story ki_160 rfl
theorem dX11_story_80 : decode cX11_story 80 = .ok (.iload_n 2, 1) := kd_r kbX11_story ki_11 rfl
theorem dX11_story_81 : decode cX11_story 81 = .ok (.iload_n 3, 1) := kd_r kbX11_story ki_55 rfl
theorem dX11_story_82 : decode cX11_story 82 = .ok (.aload_n 0, 1) := kd_r kbX11_story ki_0 rfl
theorem dX11_story_83 : decode cX11_story 83 = .ok (.iload 4, 2) := kd_r kbX11_story ki_57 rfl
theorem dX11_story_85 : decode cX11_story 85 = .ok (.invokevirtual 268, 3) := kd_r kbX11_story ki_650 rfl
theorem dX11_story_88 : decode cX11_story 88 = .ok (.invokevirtual 283, 3) := kd_r kbX11_story ki_659 rfl
theorem dX11_story_91 : decode cX11_story 91 = .ok (.ireturn, 1) := kd_r kbX11_story ki_7 rfl
set_option maxRecDepth 20000 in
theorem ggX11_dig_X11_knownStreet : GoodIn wsX11_dig wsX11_knownStreet := goodIn_r _ [5, 6, 7, 23, 24, 25, 26, 27, 28, 29, 30, 31, 32, 33, 34, 35, 36] rfl (by decide +kernel)
set_option maxRecDepth 20000 in
theorem gX11_dig_X11_knownStreet : GoodIn wsX11_dig (wsV RX11 94 RX11 yX11_knownStreet wsX11_knownStreet) := goodIn_app (goodIn_of _ (by decide +kernel)) ggX11_dig_X11_knownStreet
set_option maxRecDepth 20000 in
theorem ggX11_dig_X9_size : GoodIn wsX11_dig wsX9_size := goodIn_r _ [12, 13, 37, 38, 39, 40] rfl (by decide +kernel)
set_option maxRecDepth 20000 in
theorem gX11_dig_X9_size : GoodIn wsX11_dig (wsV RX11 110 RX9 yX9_size wsX9_size) := goodIn_app (goodIn_of _ (by decide +kernel)) ggX11_dig_X9_size
set_option maxRecDepth 20000 in
theorem ggX11_dig_X9_begin : GoodIn wsX11_dig wsX9_begin := goodIn_r _ [17, 13, 18, 37, 38, 39, 40] rfl (by decide +kernel)
set_option maxRecDepth 20000 in
theorem gX11_dig_X9_begin : GoodIn wsX11_dig (wsV RX11 147 RX9 yX9_begin wsX9_begin) := goodIn_app (goodIn_of _ (by decide +kernel)) ggX11_dig_X9_begin
set_option maxRecDepth 20000 in
theorem ggX11_dig_X9_endsAt : GoodIn wsX11_dig wsX9_endsAt := goodIn_r _ [22, 13, 18, 37, 38, 39, 40] rfl (by decide +kernel)
set_option maxRecDepth 20000 in
theorem gX11_dig_X9_endsAt : GoodIn wsX11_dig (wsV RX11 287 RX9 yX9_endsAt wsX9_endsAt) := goodIn_app (goodIn_of _ (by decide +kernel)) ggX11_dig_X9_endsAt
theorem dX11_dig_0 : decode cX11_dig 0 = .ok (.iload_n 1, 1) := kd_r kbX11_dig ki_8 rfl
theorem dX11_dig_1 : decode cX11_dig 1 = .ok (.ifCond .ge 7, 3) := kd_r kbX11_dig ki_382 rfl
theorem dX11_dig_4 : decode cX11_dig 4 = .ok (.aconst_null, 1) := kd_r kbX11_dig ki_542 rfl
theorem dX11_dig_5 : decode cX11_dig 5 = .ok (.goto 11, 3) := kd_r kbX11_dig ki_240 rfl
theorem dX11_dig_8 : decode cX11_dig 8 = .ok (.aload_n 0, 1) := kd_r kbX11_dig ki_0 rfl
theorem dX11_dig_9 : decode cX11_dig 9 = .ok (.iload_n 1, 1) := kd_r kbX11_dig ki_8 rfl
theorem dX11_dig_10 : decode cX11_dig 10 = .ok (.bipush 10, 2) := kd_r kbX11_dig ki_71 rfl
theorem dX11_dig_12 : decode cX11_dig 12 = .ok (.idiv, 1) := kd_r kbX11_dig ki_225 rfl
theorem dX11_dig_13 : decode cX11_dig 13 = .ok (.invokevirtual 94, 3) := kd_r kbX11_dig ki_524 rfl
theorem dX11_dig_16 : decode cX11_dig 16 = .ok (.astore_n 2, 1) := kd_r kbX11_dig ki_612 rfl
theorem dX11_dig_17 : decode cX11_dig 17 = .ok (.iload_n 1, 1) := kd_r kbX11_dig ki_8 rfl
theorem dX11_dig_18 : decode cX11_dig 18 = .ok (.ifCond .ge 7, 3) := kd_r kbX11_dig ki_382 rfl
theorem dX11_dig_21 : decode cX11_dig 21 = .ok (.aconst_null, 1) := kd_r kbX11_dig ki_542 rfl
theorem dX11_dig_22 : decode cX11_dig 22 = .ok (.goto 11, 3) := kd_r kbX11_dig ki_240 rfl
theorem dX11_dig_25 : decode cX11_dig 25 = .ok (.aload_n 0, 1) := kd_r kbX11_dig ki_0 rfl
theorem dX11_dig_26 : decode cX11_dig 26 = .ok (.iload_n 1, 1) := kd_r kbX11_dig ki_8 rfl
theorem dX11_dig_27 : decode cX11_dig 27 = .ok (.bipush 10, 2) := kd_r kbX11_dig ki_71 rfl
theorem dX11_dig_29 : decode cX11_dig 29 = .ok (.irem, 1) := kd_r kbX11_dig ki_227 rfl
theorem dX11_dig_30 : decode cX11_dig 30 = .ok (.invokevirtual 94, 3) := kd_r kbX11_dig ki_524 rfl
theorem dX11_dig_33 : decode cX11_dig 33 = .ok (.astore_n 3, 1) := kd_r kbX11_dig ki_553 rfl
theorem dX11_dig_34 : decode cX11_dig 34 = .ok (.aload_n 2, 1) := kd_r kbX11_dig ki_613 rfl
theorem dX11_dig_35 : decode cX11_dig 35 = .ok (.ifnull 18, 3) := kd_r kbX11_dig ki_660 rfl
theorem dX11_dig_38 : decode cX11_dig 38 = .ok (.aload_n 3, 1) := kd_r kbX11_dig ki_554 rfl
theorem dX11_dig_39 : decode cX11_dig 39 = .ok (.ifnull 14, 3) := kd_r kbX11_dig ki_661 rfl
theorem dX11_dig_42 : decode cX11_dig 42 = .ok (.iload_n 1, 1) := kd_r kbX11_dig ki_8 rfl
theorem dX11_dig_43 : decode cX11_dig 43 = .ok (.bipush 10, 2) := kd_r kbX11_dig ki_71 rfl
theorem dX11_dig_45 : decode cX11_dig 45 = .ok (.idiv, 1) := kd_r kbX11_dig ki_225 rfl
theorem dX11_dig_46 : decode cX11_dig 46 = .ok (.iload_n 1, 1) := kd_r kbX11_dig ki_8 rfl
theorem dX11_dig_47 : decode cX11_dig 47 = .ok (.bipush 10, 2) := kd_r kbX11_dig ki_71 rfl
theorem dX11_dig_49 : decode cX11_dig 49 = .ok (.irem, 1) := kd_r kbX11_dig ki_227 rfl
theorem dX11_dig_50 : decode cX11_dig 50 = .ok (.if_icmp .ne 5, 3) := kd_r kbX11_dig ki_91 rfl
theorem dX11_dig_53 : decode cX11_dig 53 = .ok (.iconst (-1), 1) := kd_r kbX11_dig ki_99 rfl
theorem dX11_dig_54 : decode cX11_dig 54 = .ok (.ireturn, 1) := kd_r kbX11_dig ki_7 rfl
theorem dX11_dig_55 : decode cX11_dig 55 = .ok (.iconst 1, 1) := kd_r kbX11_dig ki_16 rfl
theorem dX11_dig_56 : decode cX11_dig 56 = .ok (.istore 4, 2) := kd_r kbX11_dig ki_129 rfl
theorem dX11_dig_58 : decode cX11_dig 58 = .ok (.iload 4, 2) := kd_r kbX11_dig ki_57 rfl
theorem dX11_dig_60 : decode cX11_dig 60 = .ok (.aload_n 2, 1) := kd_r kbX11_dig ki_613 rfl
theorem dX11_dig_61 : decode cX11_dig 61 = .ok (.invokevirtual 110, 3) := kd_r kbX11_dig ki_532 rfl
theorem dX11_dig_64 : decode cX11_dig 64 = .ok (.if_icmp .ge 29, 3) := kd_r kbX11_dig ki_136 rfl
theorem dX11_dig_67 : decode cX11_dig 67 = .ok (.aload_n 3, 1) := kd_r kbX11_dig ki_554 rfl
theorem dX11_dig_68 : decode cX11_dig 68 = .ok (.aload_n 2, 1) := kd_r kbX11_dig ki_613 rfl
theorem dX11_dig_69 : decode cX11_dig 69 = .ok (.iload 4, 2) := kd_r kbX11_dig ki_57 rfl
theorem dX11_dig_71 : decode cX11_dig 71 = .ok (.invokevirtual 147, 3) := kd_r kbX11_dig ki_559 rfl
theorem dX11_dig_74 : decode cX11_dig 74 = .ok (.invokevirtual 287, 3) := kd_r kbX11_dig ki_662 rfl
theorem dX11_dig_77 : decode cX11_dig 77 = .ok (.ifCond .ne 10, 3) := kd_r kbX11_dig ki_414 rfl
theorem dX11_dig_80 : decode cX11_dig 80 = .ok (.aload_n 2, 1) := kd_r kbX11_dig ki_613 rfl
theorem dX11_dig_81 : decode cX11_dig 81 = .ok (.iload 4, 2) := kd_r kbX11_dig ki_57 rfl
theorem dX11_dig_83 : decode cX11_dig 83 = .ok (.invokevirtual 147, 3) := kd_r kbX11_dig ki_559 rfl
theorem dX11_dig_86 : decode cX11_dig 86 = .ok (.ireturn, 1) := kd_r kbX11_dig ki_7 rfl
theorem dX11_dig_87 : decode cX11_dig 87 = .ok (.iinc 4 1, 3) := kd_r kbX11_dig ki_144 rfl
theorem dX11_dig_90 : decode cX11_dig 90 = .ok (.goto (-32), 3) := kd_r kbX11_dig ki_367 rfl
theorem dX11_dig_93 : decode cX11_dig 93 = .ok (.bipush (-2), 2) := kd_r kbX11_dig ki_39 rfl
theorem dX11_dig_95 : decode cX11_dig 95 = .ok (.ireturn, 1) := kd_r kbX11_dig ki_7 rfl
set_option maxRecDepth 20000 in
theorem ggX11_undo_X1_undoable : GoodIn wsX11_undo wsX1_undoable := goodIn_r _ [6, 7, 69, 70, 71, 72, 73, 74] rfl (by decide +kernel)
set_option maxRecDepth 20000 in
theorem gX11_undo_X1_undoable : GoodIn wsX11_undo (wsV RX11 290 RX1 yX1_undoable wsX1_undoable) := goodIn_app (goodIn_of _ (by decide +kernel)) ggX11_undo_X1_undoable
set_option maxRecDepth 20000 in
theorem ggX11_undo_X1_lastPlot : GoodIn wsX11_undo wsX1_lastPlot := goodIn_r _ [11, 12, 13, 14, 15, 5, 16, 7, 69, 70, 71, 72, 73, 74] rfl (by decide +kernel)
set_option maxRecDepth 20000 in
theorem gX11_undo_X1_lastPlot : GoodIn wsX11_undo (wsV RX11 293 RX1 yX1_lastPlot wsX1_lastPlot) := goodIn_app (goodIn_of _ (by decide +kernel)) ggX11_undo_X1_lastPlot
set_option maxRecDepth 20000 in
theorem ggX11_undo_X11_knownStreet : GoodIn wsX11_undo wsX11_knownStreet := goodIn_r _ [21, 22, 23, 55, 56, 57, 58, 59, 60, 61, 62, 63, 64, 65, 66, 67, 68] rfl (by decide +kernel)
set_option maxRecDepth 20000 in
theorem gX11_undo_X11_knownStreet : GoodIn wsX11_undo (wsV RX11 94 RX11 yX11_knownStreet wsX11_knownStreet) := goodIn_app (goodIn_of _ (by decide +kernel)) ggX11_undo_X11_knownStreet
set_option maxRecDepth 20000 in
theorem ggX11_undo_X1_lastWhat : GoodIn wsX11_undo wsX1_lastWhat := goodIn_r _ [27, 28, 13, 14, 15, 5, 16, 7, 69, 70, 71, 72, 73, 74] rfl (by decide +kernel)
set_option maxRecDepth 20000 in
theorem gX11_undo_X1_lastWhat : GoodIn wsX11_undo (wsV RX11 296 RX1 yX1_lastWhat wsX1_lastWhat) := goodIn_app (goodIn_of _ (by decide +kernel)) ggX11_undo_X1_lastWhat
set_option maxRecDepth 20000 in
theorem ggX11_undo_X1_lastBefore : GoodIn wsX11_undo wsX1_lastBefore := goodIn_r _ [32, 33, 13, 14, 15, 5, 16, 7, 69, 70, 71, 72, 73, 74] rfl (by decide +kernel)
set_option maxRecDepth 20000 in
theorem gX11_undo_X1_lastBefore : GoodIn wsX11_undo (wsV RX11 299 RX1 yX1_lastBefore wsX1_lastBefore) := goodIn_app (goodIn_of _ (by decide +kernel)) ggX11_undo_X1_lastBefore
set_option maxRecDepth 20000 in
theorem ggX11_undo_X9_tell : GoodIn wsX11_undo wsX9_tell := goodIn_r _ [38, 39, 40, 41, 37, 42, 43, 44, 45, 46, 47, 48, 49, 50, 75, 76, 77, 78] rfl (by decide +kernel)
set_option maxRecDepth 20000 in
theorem gX11_undo_X9_tell : GoodIn wsX11_undo (wsV RX11 140 RX9 yX9_tell wsX9_tell) := goodIn_app (goodIn_of _ (by decide +kernel)) ggX11_undo_X9_tell
set_option maxRecDepth 20000 in
theorem ggX11_undo_X1_stepBack : GoodIn wsX11_undo wsX1_stepBack := goodIn_r _ [54, 7, 69, 70, 71, 72, 73, 74] rfl (by decide +kernel)
set_option maxRecDepth 20000 in
theorem gX11_undo_X1_stepBack : GoodIn wsX11_undo (wsV RX11 302 RX1 yX1_stepBack wsX1_stepBack) := goodIn_app (goodIn_of _ (by decide +kernel)) ggX11_undo_X1_stepBack
theorem dX11_undo_0 : decode cX11_undo 0 = .ok (.aload_n 0, 1) := kd_r kbX11_undo ki_0 rfl
theorem dX11_undo_1 : decode cX11_undo 1 = .ok (.getfield 23, 3) := kd_r kbX11_undo ki_327 rfl
theorem dX11_undo_4 : decode cX11_undo 4 = .ok (.invokevirtual 290, 3) := kd_r kbX11_undo ki_663 rfl
theorem dX11_undo_7 : decode cX11_undo 7 = .ok (.ifCond .ne 6, 3) := kd_r kbX11_undo ki_388 rfl
theorem dX11_undo_10 : decode cX11_undo 10 = .ok (.bipush (-5), 2) := kd_r kbX11_undo ki_635 rfl
theorem dX11_undo_12 : decode cX11_undo 12 = .ok (.ireturn, 1) := kd_r kbX11_undo ki_7 rfl
theorem dX11_undo_13 : decode cX11_undo 13 = .ok (.aload_n 0, 1) := kd_r kbX11_undo ki_0 rfl
theorem dX11_undo_14 : decode cX11_undo 14 = .ok (.aload_n 0, 1) := kd_r kbX11_undo ki_0 rfl
theorem dX11_undo_15 : decode cX11_undo 15 = .ok (.getfield 23, 3) := kd_r kbX11_undo ki_327 rfl
theorem dX11_undo_18 : decode cX11_undo 18 = .ok (.invokevirtual 293, 3) := kd_r kbX11_undo ki_664 rfl
theorem dX11_undo_21 : decode cX11_undo 21 = .ok (.bipush 100, 2) := kd_r kbX11_undo ki_228 rfl
theorem dX11_undo_23 : decode cX11_undo 23 = .ok (.idiv, 1) := kd_r kbX11_undo ki_225 rfl
theorem dX11_undo_24 : decode cX11_undo 24 = .ok (.invokevirtual 94, 3) := kd_r kbX11_undo ki_524 rfl
theorem dX11_undo_27 : decode cX11_undo 27 = .ok (.astore_n 1, 1) := kd_r kbX11_undo ki_665 rfl
theorem dX11_undo_28 : decode cX11_undo 28 = .ok (.aload_n 1, 1) := kd_r kbX11_undo ki_69 rfl
theorem dX11_undo_29 : decode cX11_undo 29 = .ok (.ifnull 31, 3) := kd_r kbX11_undo ki_666 rfl
theorem dX11_undo_32 : decode cX11_undo 32 = .ok (.aload_n 1, 1) := kd_r kbX11_undo ki_69 rfl
theorem dX11_undo_33 : decode cX11_undo 33 = .ok (.aload_n 0, 1) := kd_r kbX11_undo ki_0 rfl
theorem dX11_undo_34 : decode cX11_undo 34 = .ok (.getfield 23, 3) := kd_r kbX11_undo ki_327 rfl
theorem dX11_undo_37 : decode cX11_undo 37 = .ok (.invokevirtual 296, 3) := kd_r kbX11_undo ki_667 rfl
theorem dX11_undo_40 : decode cX11_undo 40 = .ok (.aload_n 0, 1) := kd_r kbX11_undo ki_0 rfl
theorem dX11_undo_41 : decode cX11_undo 41 = .ok (.getfield 23, 3) := kd_r kbX11_undo ki_327 rfl
theorem dX11_undo_44 : decode cX11_undo 44 = .ok (.invokevirtual 293, 3) := kd_r kbX11_undo ki_664 rfl
theorem dX11_undo_47 : decode cX11_undo 47 = .ok (.bipush 100, 2) := kd_r kbX11_undo ki_228 rfl
theorem dX11_undo_49 : decode cX11_undo 49 = .ok (.irem, 1) := kd_r kbX11_undo ki_227 rfl
theorem dX11_undo_50 : decode cX11_undo 50 = .ok (.aload_n 0, 1) := kd_r kbX11_undo ki_0 rfl
theorem dX11_undo_51 : decode cX11_undo 51 = .ok (.getfield 23, 3) := kd_r kbX11_undo ki_327 rfl
theorem dX11_undo_54 : decode cX11_undo 54 = .ok (.invokevirtual 299, 3) := kd_r kbX11_undo ki_668 rfl
theorem dX11_undo_57 : decode cX11_undo 57 = .ok (.invokevirtual 140, 3) := kd_r kbX11_undo ki_551 rfl
theorem dX11_undo_60 : decode cX11_undo 60 = .ok (.aload_n 0, 1) := kd_r kbX11_undo ki_0 rfl
theorem dX11_undo_61 : decode cX11_undo 61 = .ok (.getfield 23, 3) := kd_r kbX11_undo ki_327 rfl
theorem dX11_undo_64 : decode cX11_undo 64 = .ok (.invokevirtual 302, 3) := kd_r kbX11_undo ki_669 rfl
theorem dX11_undo_67 : decode cX11_undo 67 = .ok (.ireturn, 1) := kd_r kbX11_undo ki_7 rfl
set_option maxRecDepth 20000 in
theorem ggX11_redo_X1_redoable : GoodIn wsX11_redo wsX1_redoable := goodIn_r _ [6, 7, 8, 70, 71, 72, 73, 74, 75] rfl (by decide +kernel)
set_option maxRecDepth 20000 in
theorem gX11_redo_X1_redoable : GoodIn wsX11_redo (wsV RX11 305 RX1 yX1_redoable wsX1_redoable) := goodIn_app (goodIn_of _ (by decide +kernel)) ggX11_redo_X1_redoable
set_option maxRecDepth 20000 in
theorem ggX11_redo_X1_stepOn : GoodIn wsX11_redo wsX1_stepOn := goodIn_r _ [12, 8, 7, 70, 71, 72, 73, 74, 75] rfl (by decide +kernel)
set_option maxRecDepth 20000 in
theorem gX11_redo_X1_stepOn : GoodIn wsX11_redo (wsV RX11 308 RX1 yX1_stepOn wsX1_stepOn) := goodIn_app (goodIn_of _ (by decide +kernel)) ggX11_redo_X1_stepOn
set_option maxRecDepth 20000 in
theorem ggX11_redo_X1_lastPlot : GoodIn wsX11_redo wsX1_lastPlot := goodIn_r _ [16, 17, 18, 19, 20, 5, 21, 8, 70, 71, 72, 73, 74, 75] rfl (by decide +kernel)
set_option maxRecDepth 20000 in
theorem gX11_redo_X1_lastPlot : GoodIn wsX11_redo (wsV RX11 293 RX1 yX1_lastPlot wsX1_lastPlot) := goodIn_app (goodIn_of _ (by decide +kernel)) ggX11_redo_X1_lastPlot
set_option maxRecDepth 20000 in
theorem ggX11_redo_X11_knownStreet : GoodIn wsX11_redo wsX11_knownStreet := goodIn_r _ [26, 27, 28, 56, 57, 58, 59, 60, 61, 62, 63, 64, 65, 66, 67, 68, 69] rfl (by decide +kernel)
set_option maxRecDepth 20000 in
theorem gX11_redo_X11_knownStreet : GoodIn wsX11_redo (wsV RX11 94 RX11 yX11_knownStreet wsX11_knownStreet) := goodIn_app (goodIn_of _ (by decide +kernel)) ggX11_redo_X11_knownStreet
set_option maxRecDepth 20000 in
theorem ggX11_redo_X1_lastWhat : GoodIn wsX11_redo wsX1_lastWhat := goodIn_r _ [32, 33, 18, 19, 20, 5, 21, 8, 70, 71, 72, 73, 74, 75] rfl (by decide +kernel)
set_option maxRecDepth 20000 in
theorem gX11_redo_X1_lastWhat : GoodIn wsX11_redo (wsV RX11 296 RX1 yX1_lastWhat wsX1_lastWhat) := goodIn_app (goodIn_of _ (by decide +kernel)) ggX11_redo_X1_lastWhat
set_option maxRecDepth 20000 in
theorem ggX11_redo_X1_lastAfter : GoodIn wsX11_redo wsX1_lastAfter := goodIn_r _ [37, 38, 18, 19, 20, 5, 21, 8, 70, 71, 72, 73, 74, 75] rfl (by decide +kernel)
set_option maxRecDepth 20000 in
theorem gX11_redo_X1_lastAfter : GoodIn wsX11_redo (wsV RX11 311 RX1 yX1_lastAfter wsX1_lastAfter) := goodIn_app (goodIn_of _ (by decide +kernel)) ggX11_redo_X1_lastAfter
set_option maxRecDepth 20000 in
theorem ggX11_redo_X9_tell : GoodIn wsX11_redo wsX9_tell := goodIn_r _ [43, 44, 45, 46, 42, 47, 48, 49, 50, 51, 52, 53, 54, 55, 76, 77, 78, 79] rfl (by decide +kernel)
set_option maxRecDepth 20000 in
theorem gX11_redo_X9_tell : GoodIn wsX11_redo (wsV RX11 140 RX9 yX9_tell wsX9_tell) := goodIn_app (goodIn_of _ (by decide +kernel)) ggX11_redo_X9_tell
theorem dX11_redo_0 : decode cX11_redo 0 = .ok (.aload_n 0, 1) := kd_r kbX11_redo ki_0 rfl
theorem dX11_redo_1 : decode cX11_redo 1 = .ok (.getfield 23, 3) := kd_r kbX11_redo ki_327 rfl
theorem dX11_redo_4 : decode cX11_redo 4 = .ok (.invokevirtual 305, 3) := kd_r kbX11_redo ki_670 rfl
theorem dX11_redo_7 : decode cX11_redo 7 = .ok (.ifCond .ne 6, 3) := kd_r kbX11_redo ki_388 rfl
theorem dX11_redo_10 : decode cX11_redo 10 = .ok (.bipush (-5), 2) := kd_r kbX11_redo ki_635 rfl
theorem dX11_redo_12 : decode cX11_redo 12 = .ok (.ireturn, 1) := kd_r kbX11_redo ki_7 rfl
theorem dX11_redo_13 : decode cX11_redo 13 = .ok (.aload_n 0, 1) := kd_r kbX11_redo ki_0 rfl
theorem dX11_redo_14 : decode cX11_redo 14 = .ok (.getfield 23, 3) := kd_r kbX11_redo ki_327 rfl
theorem dX11_redo_17 : decode cX11_redo 17 = .ok (.invokevirtual 308, 3) := kd_r kbX11_redo ki_671 rfl
theorem dX11_redo_20 : decode cX11_redo 20 = .ok (.istore_n 1, 1) := kd_r kbX11_redo ki_60 rfl
theorem dX11_redo_21 : decode cX11_redo 21 = .ok (.aload_n 0, 1) := kd_r kbX11_redo ki_0 rfl
theorem dX11_redo_22 : decode cX11_redo 22 = .ok (.aload_n 0, 1) := kd_r kbX11_redo ki_0 rfl
theorem dX11_redo_23 : decode cX11_redo 23 = .ok (.getfield 23, 3) := kd_r kbX11_redo ki_327 rfl
theorem dX11_redo_26 : decode cX11_redo 26 = .ok (.invokevirtual 293, 3) := kd_r kbX11_redo ki_664 rfl
theorem dX11_redo_29 : decode cX11_redo 29 = .ok (.bipush 100, 2) := kd_r kbX11_redo ki_228 rfl
theorem dX11_redo_31 : decode cX11_redo 31 = .ok (.idiv, 1) := kd_r kbX11_redo ki_225 rfl
theorem dX11_redo_32 : decode cX11_redo 32 = .ok (.invokevirtual 94, 3) := kd_r kbX11_redo ki_524 rfl
theorem dX11_redo_35 : decode cX11_redo 35 = .ok (.astore_n 2, 1) := kd_r kbX11_redo ki_612 rfl
theorem dX11_redo_36 : decode cX11_redo 36 = .ok (.aload_n 2, 1) := kd_r kbX11_redo ki_613 rfl
theorem dX11_redo_37 : decode cX11_redo 37 = .ok (.ifnull 31, 3) := kd_r kbX11_redo ki_666 rfl
theorem dX11_redo_40 : decode cX11_redo 40 = .ok (.aload_n 2, 1) := kd_r kbX11_redo ki_613 rfl
theorem dX11_redo_41 : decode cX11_redo 41 = .ok (.aload_n 0, 1) := kd_r kbX11_redo ki_0 rfl
theorem dX11_redo_42 : decode cX11_redo 42 = .ok (.getfield 23, 3) := kd_r kbX11_redo ki_327 rfl
theorem dX11_redo_45 : decode cX11_redo 45 = .ok (.invokevirtual 296, 3) := kd_r kbX11_redo ki_667 rfl
theorem dX11_redo_48 : decode cX11_redo 48 = .ok (.aload_n 0, 1) := kd_r kbX11_redo ki_0 rfl
theorem dX11_redo_49 : decode cX11_redo 49 = .ok (.getfield 23, 3) := kd_r kbX11_redo ki_327 rfl
theorem dX11_redo_52 : decode cX11_redo 52 = .ok (.invokevirtual 293, 3) := kd_r kbX11_redo ki_664 rfl
theorem dX11_redo_55 : decode cX11_redo 55 = .ok (.bipush 100, 2) := kd_r kbX11_redo ki_228 rfl
theorem dX11_redo_57 : decode cX11_redo 57 = .ok (.irem, 1) := kd_r kbX11_redo ki_227 rfl
theorem dX11_redo_58 : decode cX11_redo 58 = .ok (.aload_n 0, 1) := kd_r kbX11_redo ki_0 rfl
theorem dX11_redo_59 : decode cX11_redo 59 = .ok (.getfield 23, 3) := kd_r kbX11_redo ki_327 rfl
theorem dX11_redo_62 : decode cX11_redo 62 = .ok (.invokevirtual 311, 3) := kd_r kbX11_redo ki_672 rfl
theorem dX11_redo_65 : decode cX11_redo 65 = .ok (.invokevirtual 140, 3) := kd_r kbX11_redo ki_551 rfl
theorem dX11_redo_68 : decode cX11_redo 68 = .ok (.iload_n 1, 1) := kd_r kbX11_redo ki_8 rfl
theorem dX11_redo_69 : decode cX11_redo 69 = .ok (.ireturn, 1) := kd_r kbX11_redo ki_7 rfl
set_option maxRecDepth 20000 in
theorem ggX11_body_X5_isKind : GoodIn wsX11_body wsX5_isKind := goodIn_r _ [5] rfl (by decide +kernel)
set_option maxRecDepth 20000 in
theorem gX11_body_X5_isKind : GoodIn wsX11_body (va_wsS RX11 314 yX5_isKind wsX5_isKind) := goodIn_app (goodIn_of _ (by decide +kernel)) ggX11_body_X5_isKind
set_option maxRecDepth 20000 in
theorem ggX11_body_X5_isFull : GoodIn wsX11_body wsX5_isFull := goodIn_r _ [9, 10, 31, 32, 33, 34] rfl (by decide +kernel)
set_option maxRecDepth 20000 in
theorem gX11_body_X5_isFull : GoodIn wsX11_body (wsV RX11 317 RX5 yX5_isFull wsX5_isFull) := goodIn_app (goodIn_of _ (by decide +kernel)) ggX11_body_X5_isFull
set_option maxRecDepth 20000 in
theorem ggX11_body_X5_append : GoodIn wsX11_body wsX5_append := goodIn_r _ [14, 15, 10, 16, 7, 8, 4, 9, 31, 32, 33, 34] rfl (by decide +kernel)
set_option maxRecDepth 20000 in
theorem gX11_body_X5_append : GoodIn wsX11_body (wsV RX11 318 RX5 yX5_append wsX5_append) := goodIn_app (goodIn_of _ (by decide +kernel)) ggX11_body_X5_append
theorem dX11_body_0 : decode cX11_body 0 = .ok (.iload_n 1, 1) := kd_r kbX11_body ki_8 rfl
theorem dX11_body_1 : decode cX11_body 1 = .ok (.invokestatic 314, 3) := kd_r kbX11_body ki_673 rfl
theorem dX11_body_4 : decode cX11_body 4 = .ok (.ifCond .ne 5, 3) := kd_r kbX11_body ki_36 rfl
theorem dX11_body_7 : decode cX11_body 7 = .ok (.iconst (-1), 1) := kd_r kbX11_body ki_99 rfl
theorem dX11_body_8 : decode cX11_body 8 = .ok (.ireturn, 1) := kd_r kbX11_body ki_7 rfl
theorem dX11_body_9 : decode cX11_body 9 = .ok (.aload_n 0, 1) := kd_r kbX11_body ki_0 rfl
theorem dX11_body_10 : decode cX11_body 10 = .ok (.getfield 78, 3) := kd_r kbX11_body ki_674 rfl
theorem dX11_body_13 : decode cX11_body 13 = .ok (.invokevirtual 317, 3) := kd_r kbX11_body ki_675 rfl
theorem dX11_body_16 : decode cX11_body 16 = .ok (.ifCond .eq 8, 3) := kd_r kbX11_body ki_624 rfl
theorem dX11_body_19 : decode cX11_body 19 = .ok (.bipush (-3), 2) := kd_r kbX11_body ki_293 rfl
theorem dX11_body_21 : decode cX11_body 21 = .ok (.goto 11, 3) := kd_r kbX11_body ki_240 rfl
theorem dX11_body_24 : decode cX11_body 24 = .ok (.aload_n 0, 1) := kd_r kbX11_body ki_0 rfl
theorem dX11_body_25 : decode cX11_body 25 = .ok (.getfield 78, 3) := kd_r kbX11_body ki_674 rfl
theorem dX11_body_28 : decode cX11_body 28 = .ok (.iload_n 1, 1) := kd_r kbX11_body ki_8 rfl
theorem dX11_body_29 : decode cX11_body 29 = .ok (.invokevirtual 318, 3) := kd_r kbX11_body ki_676 rfl
theorem dX11_body_32 : decode cX11_body 32 = .ok (.ireturn, 1) := kd_r kbX11_body ki_7 rfl
set_option maxRecDepth 20000 in
theorem ggX11_act_X5_perform : GoodIn wsX11_act wsX5_perform := goodIn_r _ [6, 7, 8, 9, 10, 11, 5, 12, 13, 14, 15, 16, 17, 18, 19, 20, 21, 22, 23, 24, 25, 26, 27, 28, 29, 30, 31, 32, 33, 34, 35, 50, 51, 52, 53] rfl (by decide +kernel)
set_option maxRecDepth 20000 in
theorem gX11_act_X5_perform : GoodIn wsX11_act (wsV RX11 320 RX5 yX5_perform wsX5_perform) := goodIn_app (goodIn_of _ (by decide +kernel)) ggX11_act_X5_perform
theorem dX11_act_0 : decode cX11_act 0 = .ok (.aload_n 0, 1) := kd_r kbX11_act ki_0 rfl
theorem dX11_act_1 : decode cX11_act 1 = .ok (.getfield 78, 3) := kd_r kbX11_act ki_674 rfl
theorem dX11_act_4 : decode cX11_act 4 = .ok (.iload_n 1, 1) := kd_r kbX11_act ki_8 rfl
theorem dX11_act_5 : decode cX11_act 5 = .ok (.iload_n 2, 1) := kd_r kbX11_act ki_11 rfl
theorem dX11_act_6 : decode cX11_act 6 = .ok (.iload_n 3, 1) := kd_r kbX11_act ki_55 rfl
theorem dX11_act_7 : decode cX11_act 7 = .ok (.invokevirtual 320, 3) := kd_r kbX11_act ki_677 rfl
theorem dX11_act_10 : decode cX11_act 10 = .ok (.ireturn, 1) := kd_r kbX11_act ki_7 rfl
set_option maxRecDepth 20000 in
theorem ggX11_trace_X5_traced : GoodIn wsX11_trace wsX5_traced := goodIn_r _ [6, 7, 8, 23, 24, 25, 26] rfl (by decide +kernel)
set_option maxRecDepth 20000 in
theorem gX11_trace_X5_traced : GoodIn wsX11_trace (wsV RX11 323 RX5 yX5_traced wsX5_traced) := goodIn_app (goodIn_of _ (by decide +kernel)) ggX11_trace_X5_traced
theorem dX11_trace_0 : decode cX11_trace 0 = .ok (.aload_n 0, 1) := kd_r kbX11_trace ki_0 rfl
theorem dX11_trace_1 : decode cX11_trace 1 = .ok (.getfield 78, 3) := kd_r kbX11_trace ki_674 rfl
theorem dX11_trace_4 : decode cX11_trace 4 = .ok (.iload_n 1, 1) := kd_r kbX11_trace ki_8 rfl
theorem dX11_trace_5 : decode cX11_trace 5 = .ok (.invokevirtual 323, 3) := kd_r kbX11_trace ki_678 rfl
theorem dX11_trace_8 : decode cX11_trace 8 = .ok (.ireturn, 1) := kd_r kbX11_trace ki_7 rfl
set_option maxRecDepth 20000 in
theorem ggX11_keep_X11_knownShelf : GoodIn wsX11_keep wsX11_knownShelf := goodIn_r _ [6, 7, 25, 26, 27, 28, 29, 30, 31, 32, 33, 34, 35, 36, 37, 38] rfl (by decide +kernel)
set_option maxRecDepth 20000 in
theorem gX11_keep_X11_knownShelf : GoodIn wsX11_keep (wsV RX11 114 RX11 yX11_knownShelf wsX11_knownShelf) := goodIn_app (goodIn_of _ (by decide +kernel)) ggX11_keep_X11_knownShelf
set_option maxRecDepth 20000 in
theorem ggX11_keep_X5_has : GoodIn wsX11_keep wsX5_has := goodIn_r _ [12, 13, 39, 40, 41, 42] rfl (by decide +kernel)
set_option maxRecDepth 20000 in
theorem gX11_keep_X5_has : GoodIn wsX11_keep (wsV RX11 326 RX5 yX5_has wsX5_has) := goodIn_app (goodIn_of _ (by decide +kernel)) ggX11_keep_X5_has
set_option maxRecDepth 20000 in
theorem ggX11_keep_X8_holdNothing : GoodIn wsX11_keep wsX8_holdNothing := goodIn_r _ [18, 19, 43, 44, 45, 46] rfl (by decide +kernel)
set_option maxRecDepth 20000 in
theorem gX11_keep_X8_holdNothing : GoodIn wsX11_keep (wsV RX11 327 RX8 yX8_holdNothing wsX8_holdNothing) := goodIn_app (goodIn_of _ (by decide +kernel)) ggX11_keep_X8_holdNothing
set_option maxRecDepth 20000 in
theorem ggX11_keep_X8_holdLine : GoodIn wsX11_keep wsX8_holdLine := goodIn_r _ [23, 19, 24, 43, 44, 45, 46] rfl (by decide +kernel)
set_option maxRecDepth 20000 in
theorem gX11_keep_X8_holdLine : GoodIn wsX11_keep (wsV RX11 330 RX8 yX8_holdLine wsX8_holdLine) := goodIn_app (goodIn_of _ (by decide +kernel)) ggX11_keep_X8_holdLine
theorem dX11_keep_0 : decode cX11_keep 0 = .ok (.aload_n 0, 1) := kd_r kbX11_keep ki_0 rfl
theorem dX11_keep_1 : decode cX11_keep 1 = .ok (.iload_n 1, 1) := kd_r kbX11_keep ki_8 rfl
theorem dX11_keep_2 : decode cX11_keep 2 = .ok (.invokevirtual 114, 3) := kd_r kbX11_keep ki_533 rfl
theorem dX11_keep_5 : decode cX11_keep 5 = .ok (.astore_n 3, 1) := kd_r kbX11_keep ki_553 rfl
theorem dX11_keep_6 : decode cX11_keep 6 = .ok (.aload_n 3, 1) := kd_r kbX11_keep ki_554 rfl
theorem dX11_keep_7 : decode cX11_keep 7 = .ok (.ifnull 19, 3) := kd_r kbX11_keep ki_577 rfl
theorem dX11_keep_10 : decode cX11_keep 10 = .ok (.iload_n 2, 1) := kd_r kbX11_keep ki_11 rfl
theorem dX11_keep_11 : decode cX11_keep 11 = .ok (.iconst (-1), 1) := kd_r kbX11_keep ki_99 rfl
theorem dX11_keep_12 : decode cX11_keep 12 = .ok (.if_icmp .eq 16, 3) := kd_r kbX11_keep ki_679 rfl
theorem dX11_keep_15 : decode cX11_keep 15 = .ok (.aload_n 0, 1) := kd_r kbX11_keep ki_0 rfl
theorem dX11_keep_16 : decode cX11_keep 16 = .ok (.getfield 78, 3) := kd_r kbX11_keep ki_674 rfl
theorem dX11_keep_19 : decode cX11_keep 19 = .ok (.iload_n 2, 1) := kd_r kbX11_keep ki_11 rfl
theorem dX11_keep_20 : decode cX11_keep 20 = .ok (.invokevirtual 326, 3) := kd_r kbX11_keep ki_680 rfl
theorem dX11_keep_23 : decode cX11_keep 23 = .ok (.ifCond .ne 5, 3) := kd_r kbX11_keep ki_36 rfl
theorem dX11_keep_26 : decode cX11_keep 26 = .ok (.iconst (-1), 1) := kd_r kbX11_keep ki_99 rfl
theorem dX11_keep_27 : decode cX11_keep 27 = .ok (.ireturn, 1) := kd_r kbX11_keep ki_7 rfl
theorem dX11_keep_28 : decode cX11_keep 28 = .ok (.iload_n 2, 1) := kd_r kbX11_keep ki_11 rfl
theorem dX11_keep_29 : decode cX11_keep 29 = .ok (.iconst (-1), 1) := kd_r kbX11_keep ki_99 rfl
theorem dX11_keep_30 : decode cX11_keep 30 = .ok (.if_icmp .ne 10, 3) := kd_r kbX11_keep ki_415 rfl
theorem dX11_keep_33 : decode cX11_keep 33 = .ok (.aload_n 3, 1) := kd_r kbX11_keep ki_554 rfl
theorem dX11_keep_34 : decode cX11_keep 34 = .ok (.invokevirtual 327, 3) := kd_r kbX11_keep ki_681 rfl
theorem dX11_keep_37 : decode cX11_keep 37 = .ok (.goto 8, 3) := kd_r kbX11_keep ki_261 rfl
theorem dX11_keep_40 : decode cX11_keep 40 = .ok (.aload_n 3, 1) := kd_r kbX11_keep ki_554 rfl
theorem dX11_keep_41 : decode cX11_keep 41 = .ok (.iload_n 2, 1) := kd_r kbX11_keep ki_11 rfl
theorem dX11_keep_42 : decode cX11_keep 42 = .ok (.invokevirtual 330, 3) := kd_r kbX11_keep ki_682 rfl
theorem dX11_keep_45 : decode cX11_keep 45 = .ok (.iconst 1, 1) := kd_r kbX11_keep ki_16 rfl
theorem dX11_keep_46 : decode cX11_keep 46 = .ok (.ireturn, 1) := kd_r kbX11_keep ki_7 rfl
set_option maxRecDepth 20000 in
theorem ggX11_row_X11_knownShelf : GoodIn wsX11_row wsX11_knownShelf := goodIn_r _ [5, 6, 18, 19, 20, 21, 22, 23, 24, 25, 26, 27, 28, 29, 30, 31] rfl (by decide +kernel)
set_option maxRecDepth 20000 in
theorem gX11_row_X11_knownShelf : GoodIn wsX11_row (wsV RX11 114 RX11 yX11_knownShelf wsX11_knownShelf) := goodIn_app (goodIn_of _ (by decide +kernel)) ggX11_row_X11_knownShelf
set_option maxRecDepth 20000 in
theorem ggX11_row_X8_isSort : GoodIn wsX11_row wsX8_isSort := goodIn_r _ [10] rfl (by decide +kernel)
set_option maxRecDepth 20000 in
theorem gX11_row_X8_isSort : GoodIn wsX11_row (va_wsS RX11 334 yX8_isSort wsX8_isSort) := goodIn_app (goodIn_of _ (by decide +kernel)) ggX11_row_X8_isSort
set_option maxRecDepth 20000 in
theorem ggX11_row_X8_holdRow : GoodIn wsX11_row wsX8_holdRow := goodIn_r _ [14, 15, 16, 17, 32, 33, 34, 35] rfl (by decide +kernel)
set_option maxRecDepth 20000 in
theorem gX11_row_X8_holdRow : GoodIn wsX11_row (wsV RX11 337 RX8 yX8_holdRow wsX8_holdRow) := goodIn_app (goodIn_of _ (by decide +kernel)) ggX11_row_X8_holdRow
theorem dX11_row_0 : decode cX11_row 0 = .ok (.aload_n 0, 1) := kd_r kbX11_row ki_0 rfl
theorem dX11_row_1 : decode cX11_row 1 = .ok (.iload_n 1, 1) := kd_r kbX11_row ki_8 rfl
theorem dX11_row_2 : decode cX11_row 2 = .ok (.invokevirtual 114, 3) := kd_r kbX11_row ki_533 rfl
theorem dX11_row_5 : decode cX11_row 5 = .ok (.astore 4, 2) := kd_r kbX11_row ki_525 rfl
theorem dX11_row_7 : decode cX11_row 7 = .ok (.aload 4, 2) := kd_r kbX11_row ki_526 rfl
theorem dX11_row_9 : decode cX11_row 9 = .ok (.ifnull 16, 3) := kd_r kbX11_row ki_535 rfl
theorem dX11_row_12 : decode cX11_row 12 = .ok (.iload_n 2, 1) := kd_r kbX11_row ki_11 rfl
theorem dX11_row_13 : decode cX11_row 13 = .ok (.invokestatic 334, 3) := kd_r kbX11_row ki_683 rfl
theorem dX11_row_16 : decode cX11_row 16 = .ok (.ifCond .eq 9, 3) := kd_r kbX11_row ki_472 rfl
theorem dX11_row_19 : decode cX11_row 19 = .ok (.iload_n 3, 1) := kd_r kbX11_row ki_55 rfl
theorem dX11_row_20 : decode cX11_row 20 = .ok (.bipush 60, 2) := kd_r kbX11_row ki_384 rfl
theorem dX11_row_22 : decode cX11_row 22 = .ok (.if_icmp .le 5, 3) := kd_r kbX11_row ki_106 rfl
theorem dX11_row_25 : decode cX11_row 25 = .ok (.iconst (-1), 1) := kd_r kbX11_row ki_99 rfl
theorem dX11_row_26 : decode cX11_row 26 = .ok (.ireturn, 1) := kd_r kbX11_row ki_7 rfl
theorem dX11_row_27 : decode cX11_row 27 = .ok (.iload_n 3, 1) := kd_r kbX11_row ki_55 rfl
theorem dX11_row_28 : decode cX11_row 28 = .ok (.ifCond .ge 6, 3) := kd_r kbX11_row ki_555 rfl
theorem dX11_row_31 : decode cX11_row 31 = .ok (.bipush (-14), 2) := kd_r kbX11_row ki_684 rfl
theorem dX11_row_33 : decode cX11_row 33 = .ok (.ireturn, 1) := kd_r kbX11_row ki_7 rfl
theorem dX11_row_34 : decode cX11_row 34 = .ok (.aload 4, 2) := kd_r kbX11_row ki_526 rfl
theorem dX11_row_36 : decode cX11_row 36 = .ok (.iload_n 2, 1) := kd_r kbX11_row ki_11 rfl
theorem dX11_row_37 : decode cX11_row 37 = .ok (.iload_n 3, 1) := kd_r kbX11_row ki_55 rfl
theorem dX11_row_38 : decode cX11_row 38 = .ok (.invokevirtual 337, 3) := kd_r kbX11_row ki_685 rfl
theorem dX11_row_41 : decode cX11_row 41 = .ok (.iconst 1, 1) := kd_r kbX11_row ki_16 rfl
theorem dX11_row_42 : decode cX11_row 42 = .ok (.ireturn, 1) := kd_r kbX11_row ki_7 rfl
set_option maxRecDepth 20000 in
theorem ggX11_put_X11_knownShelf : GoodIn wsX11_put wsX11_knownShelf := goodIn_r _ [5, 6, 34, 35, 36, 37, 38, 39, 40, 41, 42, 43, 44, 45, 46, 47] rfl (by decide +kernel)
set_option maxRecDepth 20000 in
theorem gX11_put_X11_knownShelf : GoodIn wsX11_put (wsV RX11 114 RX11 yX11_knownShelf wsX11_knownShelf) := goodIn_app (goodIn_of _ (by decide +kernel)) ggX11_put_X11_knownShelf
set_option maxRecDepth 20000 in
theorem ggX11_put_X8_refusal : GoodIn wsX11_put wsX8_refusal := goodIn_r _ [11, 12, 13, 14, 15, 10, 16, 17, 18, 19, 20, 21, 22, 23, 24, 48, 49, 50, 51] rfl (by decide +kernel)
set_option maxRecDepth 20000 in
theorem gX11_put_X8_refusal : GoodIn wsX11_put (wsV RX11 341 RX8 yX8_refusal wsX8_refusal) := goodIn_app (goodIn_of _ (by decide +kernel)) ggX11_put_X8_refusal
set_option maxRecDepth 20000 in
theorem ggX11_put_X8_write : GoodIn wsX11_put wsX8_write := goodIn_r _ [28, 29, 20, 21, 22, 10, 23, 24, 30, 31, 32, 33, 12, 48, 49, 50, 51] rfl (by decide +kernel)
set_option maxRecDepth 20000 in
theorem gX11_put_X8_write : GoodIn wsX11_put (wsV RX11 344 RX8 yX8_write wsX8_write) := goodIn_app (goodIn_of _ (by decide +kernel)) ggX11_put_X8_write
theorem dX11_put_0 : decode cX11_put 0 = .ok (.aload_n 0, 1) := kd_r kbX11_put ki_0 rfl
theorem dX11_put_1 : decode cX11_put 1 = .ok (.iload_n 1, 1) := kd_r kbX11_put ki_8 rfl
theorem dX11_put_2 : decode cX11_put 2 = .ok (.invokevirtual 114, 3) := kd_r kbX11_put ki_533 rfl
theorem dX11_put_5 : decode cX11_put 5 = .ok (.astore 5, 2) := kd_r kbX11_put ki_150 rfl
theorem dX11_put_7 : decode cX11_put 7 = .ok (.aload 5, 2) := kd_r kbX11_put ki_160 rfl
theorem dX11_put_9 : decode cX11_put 9 = .ok (.ifnonnull 5, 3) := kd_r kbX11_put ki_655 rfl
theorem dX11_put_12 : decode cX11_put 12 = .ok (.iconst (-1), 1) := kd_r kbX11_put ki_99 rfl
theorem dX11_put_13 : decode cX11_put 13 = .ok (.ireturn, 1) := kd_r kbX11_put ki_7 rfl
theorem dX11_put_14 : decode cX11_put 14 = .ok (.aload 5, 2) := kd_r kbX11_put ki_160 rfl
theorem dX11_put_16 : decode cX11_put 16 = .ok (.iload_n 2, 1) := kd_r kbX11_put ki_11 rfl
theorem dX11_put_17 : decode cX11_put 17 = .ok (.invokevirtual 341, 3) := kd_r kbX11_put ki_686 rfl
theorem dX11_put_20 : decode cX11_put 20 = .ok (.istore 6, 2) := kd_r kbX11_put ki_199 rfl
theorem dX11_put_22 : decode cX11_put 22 = .ok (.iload 6, 2) := kd_r kbX11_put ki_200 rfl
theorem dX11_put_24 : decode cX11_put 24 = .ok (.ifCond .eq 6, 3) := kd_r kbX11_put ki_292 rfl
theorem dX11_put_27 : decode cX11_put 27 = .ok (.iload 6, 2) := kd_r kbX11_put ki_200 rfl
theorem dX11_put_29 : decode cX11_put 29 = .ok (.ireturn, 1) := kd_r kbX11_put ki_7 rfl
theorem dX11_put_30 : decode cX11_put 30 = .ok (.aload 5, 2) := kd_r kbX11_put ki_160 rfl
theorem dX11_put_32 : decode cX11_put 32 = .ok (.iload_n 2, 1) := kd_r kbX11_put ki_11 rfl
theorem dX11_put_33 : decode cX11_put 33 = .ok (.lload_n 3, 1) := kd_r kbX11_put ki_687 rfl
theorem dX11_put_34 : decode cX11_put 34 = .ok (.invokevirtual 344, 3) := kd_r kbX11_put ki_688 rfl
theorem dX11_put_37 : decode cX11_put 37 = .ok (.iconst 1, 1) := kd_r kbX11_put ki_16 rfl
theorem dX11_put_38 : decode cX11_put 38 = .ok (.ireturn, 1) := kd_r kbX11_put ki_7 rfl
set_option maxRecDepth 20000 in
theorem ggX11_element_X11_knownShelf : GoodIn wsX11_element wsX11_knownShelf := goodIn_r _ [6, 7, 31, 32, 33, 34, 35, 36, 37, 38, 39, 40, 41, 42, 43, 44] rfl (by decide +kernel)
set_option maxRecDepth 20000 in
theorem gX11_element_X11_knownShelf : GoodIn wsX11_element (wsV RX11 114 RX11 yX11_knownShelf wsX11_knownShelf) := goodIn_app (goodIn_of _ (by decide +kernel)) ggX11_element_X11_knownShelf
set_option maxRecDepth 20000 in
theorem ggX11_element_X8_refusal : GoodIn wsX11_element wsX8_refusal := goodIn_r _ [12, 13, 14, 15, 16, 11, 17, 18, 19, 20, 21, 22, 23, 24, 25, 45, 46, 47, 48] rfl (by decide +kernel)
set_option maxRecDepth 20000 in
theorem gX11_element_X8_refusal : GoodIn wsX11_element (wsV RX11 341 RX8 yX8_refusal wsX8_refusal) := goodIn_app (goodIn_of _ (by decide +kernel)) ggX11_element_X8_refusal
set_option maxRecDepth 20000 in
theorem ggX11_element_X8_read : GoodIn wsX11_element wsX8_read := goodIn_r _ [29, 30, 21, 22, 23, 11, 24, 25, 45, 46, 47, 48] rfl (by decide +kernel)
set_option maxRecDepth 20000 in
theorem gX11_element_X8_read : GoodIn wsX11_element (wsV RX11 351 RX8 yX8_read wsX8_read) := goodIn_app (goodIn_of _ (by decide +kernel)) ggX11_element_X8_read
theorem dX11_element_0 : decode cX11_element 0 = .ok (.aload_n 0, 1) := kd_r kbX11_element ki_0 rfl
theorem dX11_element_1 : decode cX11_element 1 = .ok (.iload_n 1, 1) := kd_r kbX11_element ki_8 rfl
theorem dX11_element_2 : decode cX11_element 2 = .ok (.invokevirtual 114, 3) := kd_r kbX11_element ki_533 rfl
theorem dX11_element_5 : decode cX11_element 5 = .ok (.astore_n 3, 1) := kd_r kbX11_element ki_553 rfl
theorem dX11_element_6 : decode cX11_element 6 = .ok (.aload_n 3, 1) := kd_r kbX11_element ki_554 rfl
theorem dX11_element_7 : decode cX11_element 7 = .ok (.ifnull 11, 3) := kd_r kbX11_element ki_616 rfl
theorem dX11_element_10 : decode cX11_element 10 = .ok (.aload_n 3, 1) := kd_r kbX11_element ki_554 rfl
theorem dX11_element_11 : decode cX11_element 11 = .ok (.iload_n 2, 1) := kd_r kbX11_element ki_11 rfl
theorem dX11_element_12 : decode cX11_element 12 = .ok (.invokevirtual 341, 3) := kd_r kbX11_element ki_686 rfl
theorem dX11_element_15 : decode cX11_element 15 = .ok (.ifCond .eq 9, 3) := kd_r kbX11_element ki_472 rfl
theorem dX11_element_18 : decode cX11_element 18 = .ok (.ldc2_w 349, 3) := kd_r kbX11_element ki_689 rfl
theorem dX11_element_21 : decode cX11_element 21 = .ok (.goto 8, 3) := kd_r kbX11_element ki_261 rfl
theorem dX11_element_24 : decode cX11_element 24 = .ok (.aload_n 3, 1) := kd_r kbX11_element ki_554 rfl
theorem dX11_element_25 : decode cX11_element 25 = .ok (.iload_n 2, 1) := kd_r kbX11_element ki_11 rfl
theorem dX11_element_26 : decode cX11_element 26 = .ok (.invokevirtual 351, 3) := kd_r kbX11_element ki_690 rfl
theorem dX11_element_29 : decode cX11_element 29 = .ok (.lreturn, 1) := kd_r kbX11_element ki_393 rfl
set_option maxRecDepth 20000 in
theorem ggX11_shift_X11_knownShelf : GoodIn wsX11_shift wsX11_knownShelf := goodIn_r _ [5, 6, 35, 36, 37, 38, 39, 40, 41, 42, 43, 44, 45, 46, 47, 48] rfl (by decide +kernel)
set_option maxRecDepth 20000 in
theorem gX11_shift_X11_knownShelf : GoodIn wsX11_shift (wsV RX11 114 RX11 yX11_knownShelf wsX11_knownShelf) := goodIn_app (goodIn_of _ (by decide +kernel)) ggX11_shift_X11_knownShelf
set_option maxRecDepth 20000 in
theorem ggX11_shift_X8_isEmpty : GoodIn wsX11_shift wsX8_isEmpty := goodIn_r _ [11, 12, 49, 50, 51, 52] rfl (by decide +kernel)
set_option maxRecDepth 20000 in
theorem gX11_shift_X8_isEmpty : GoodIn wsX11_shift (wsV RX11 118 RX8 yX8_isEmpty wsX8_isEmpty) := goodIn_app (goodIn_of _ (by decide +kernel)) ggX11_shift_X8_isEmpty
set_option maxRecDepth 20000 in
theorem ggX11_shift_X8_holdsRowLike : GoodIn wsX11_shift wsX8_holdsRowLike := goodIn_r _ [16, 12, 17, 18, 10, 19, 49, 50, 51, 52] rfl (by decide +kernel)
set_option maxRecDepth 20000 in
theorem gX11_shift_X8_holdsRowLike : GoodIn wsX11_shift (wsV RX11 355 RX8 yX8_holdsRowLike wsX8_holdsRowLike) := goodIn_app (goodIn_of _ (by decide +kernel)) ggX11_shift_X8_holdsRowLike
set_option maxRecDepth 20000 in
theorem ggX11_shift_X8_spans : GoodIn wsX11_shift wsX8_spans := goodIn_r _ [23, 24, 49, 50, 51, 52] rfl (by decide +kernel)
set_option maxRecDepth 20000 in
theorem gX11_shift_X8_spans : GoodIn wsX11_shift (wsV RX11 359 RX8 yX8_spans wsX8_spans) := goodIn_app (goodIn_of _ (by decide +kernel)) ggX11_shift_X8_spans
set_option maxRecDepth 20000 in
theorem ggX11_shift_X8_copyTo : GoodIn wsX11_shift wsX8_copyTo := goodIn_r _ [28, 29, 30, 31, 32, 33, 34, 21, 22, 10, 23, 24, 49, 50, 51, 52] rfl (by decide +kernel)
set_option maxRecDepth 20000 in
theorem gX11_shift_X8_copyTo : GoodIn wsX11_shift (wsV RX11 362 RX8 yX8_copyTo wsX8_copyTo) := goodIn_app (goodIn_of _ (by decide +kernel)) ggX11_shift_X8_copyTo
theorem dX11_shift_0 : decode cX11_shift 0 = .ok (.aload_n 0, 1) := kd_r kbX11_shift ki_0 rfl
theorem dX11_shift_1 : decode cX11_shift 1 = .ok (.iload_n 1, 1) := kd_r kbX11_shift ki_8 rfl
theorem dX11_shift_2 : decode cX11_shift 2 = .ok (.invokevirtual 114, 3) := kd_r kbX11_shift ki_533 rfl
theorem dX11_shift_5 : decode cX11_shift 5 = .ok (.astore 6, 2) := kd_r kbX11_shift ki_151 rfl
theorem dX11_shift_7 : decode cX11_shift 7 = .ok (.aload_n 0, 1) := kd_r kbX11_shift ki_0 rfl
theorem dX11_shift_8 : decode cX11_shift 8 = .ok (.iload_n 3, 1) := kd_r kbX11_shift ki_55 rfl
theorem dX11_shift_9 : decode cX11_shift 9 = .ok (.invokevirtual 114, 3) := kd_r kbX11_shift ki_533 rfl
theorem dX11_shift_12 : decode cX11_shift 12 = .ok (.astore 7, 2) := kd_r kbX11_shift ki_691 rfl
theorem dX11_shift_14 : decode cX11_shift 14 = .ok (.aload 6, 2) := kd_r kbX11_shift ki_161 rfl
theorem dX11_shift_16 : decode cX11_shift 16 = .ok (.ifnull 8, 3) := kd_r kbX11_shift ki_692 rfl
theorem dX11_shift_19 : decode cX11_shift 19 = .ok (.aload 7, 2) := kd_r kbX11_shift ki_693 rfl
theorem dX11_shift_21 : decode cX11_shift 21 = .ok (.ifnonnull 5, 3) := kd_r kbX11_shift ki_655 rfl
theorem dX11_shift_24 : decode cX11_shift 24 = .ok (.iconst (-1), 1) := kd_r kbX11_shift ki_99 rfl
theorem dX11_shift_25 : decode cX11_shift 25 = .ok (.ireturn, 1) := kd_r kbX11_shift ki_7 rfl
theorem dX11_shift_26 : decode cX11_shift 26 = .ok (.aload 6, 2) := kd_r kbX11_shift ki_161 rfl
theorem dX11_shift_28 : decode cX11_shift 28 = .ok (.invokevirtual 118, 3) := kd_r kbX11_shift ki_538 rfl
theorem dX11_shift_31 : decode cX11_shift 31 = .ok (.ifCond .ne 11, 3) := kd_r kbX11_shift ki_608 rfl
theorem dX11_shift_34 : decode cX11_shift 34 = .ok (.aload 7, 2) := kd_r kbX11_shift ki_693 rfl
theorem dX11_shift_36 : decode cX11_shift 36 = .ok (.invokevirtual 118, 3) := kd_r kbX11_shift ki_538 rfl
theorem dX11_shift_39 : decode cX11_shift 39 = .ok (.ifCond .eq 6, 3) := kd_r kbX11_shift ki_292 rfl
theorem dX11_shift_42 : decode cX11_shift 42 = .ok (.bipush (-11), 2) := kd_r kbX11_shift ki_387 rfl
theorem dX11_shift_44 : decode cX11_shift 44 = .ok (.ireturn, 1) := kd_r kbX11_shift ki_7 rfl
theorem dX11_shift_45 : decode cX11_shift 45 = .ok (.aload 6, 2) := kd_r kbX11_shift ki_161 rfl
theorem dX11_shift_47 : decode cX11_shift 47 = .ok (.aload 7, 2) := kd_r kbX11_shift ki_693 rfl
theorem dX11_shift_49 : decode cX11_shift 49 = .ok (.invokevirtual 355, 3) := kd_r kbX11_shift ki_694 rfl
theorem dX11_shift_52 : decode cX11_shift 52 = .ok (.ifCond .ne 6, 3) := kd_r kbX11_shift ki_388 rfl
theorem dX11_shift_55 : decode cX11_shift 55 = .ok (.bipush (-12), 2) := kd_r kbX11_shift ki_389 rfl
theorem dX11_shift_57 : decode cX11_shift 57 = .ok (.ireturn, 1) := kd_r kbX11_shift ki_7 rfl
theorem dX11_shift_58 : decode cX11_shift 58 = .ok (.aload 6, 2) := kd_r kbX11_shift ki_161 rfl
theorem dX11_shift_60 : decode cX11_shift 60 = .ok (.iload_n 2, 1) := kd_r kbX11_shift ki_11 rfl
theorem dX11_shift_61 : decode cX11_shift 61 = .ok (.iload 5, 2) := kd_r kbX11_shift ki_134 rfl
theorem dX11_shift_63 : decode cX11_shift 63 = .ok (.invokevirtual 359, 3) := kd_r kbX11_shift ki_695 rfl
theorem dX11_shift_66 : decode cX11_shift 66 = .ok (.ifCond .eq 15, 3) := kd_r kbX11_shift ki_641 rfl
theorem dX11_shift_69 : decode cX11_shift 69 = .ok (.aload 7, 2) := kd_r kbX11_shift ki_693 rfl
theorem dX11_shift_71 : decode cX11_shift 71 = .ok (.iload 4, 2) := kd_r kbX11_shift ki_57 rfl
theorem dX11_shift_73 : decode cX11_shift 73 = .ok (.iload 5, 2) := kd_r kbX11_shift ki_134 rfl
theorem dX11_shift_75 : decode cX11_shift 75 = .ok (.invokevirtual 359, 3) := kd_r kbX11_shift ki_695 rfl
theorem dX11_shift_78 : decode cX11_shift 78 = .ok (.ifCond .ne 6, 3) := kd_r kbX11_shift ki_388 rfl
theorem dX11_shift_81 : decode cX11_shift 81 = .ok (.bipush (-13), 2) := kd_r kbX11_shift ki_390 rfl
theorem dX11_shift_83 : decode cX11_shift 83 = .ok (.ireturn, 1) := kd_r kbX11_shift ki_7 rfl
theorem dX11_shift_84 : decode cX11_shift 84 = .ok (.aload 6, 2) := kd_r kbX11_shift ki_161 rfl
theorem dX11_shift_86 : decode cX11_shift 86 = .ok (.aload 7, 2) := kd_r kbX11_shift ki_693 rfl
theorem dX11_shift_88 : decode cX11_shift 88 = .ok (.iload_n 2, 1) := kd_r kbX11_shift ki_11 rfl
theorem dX11_shift_89 : decode cX11_shift 89 = .ok (.iload 4, 2) := kd_r kbX11_shift ki_57 rfl
theorem dX11_shift_91 : decode cX11_shift 91 = .ok (.iload 5, 2) := kd_r kbX11_shift ki_134 rfl
theorem dX11_shift_93 : decode cX11_shift 93 = .ok (.invokevirtual 362, 3) := kd_r kbX11_shift ki_696 rfl
theorem dX11_shift_96 : decode cX11_shift 96 = .ok (.iload 5, 2) := kd_r kbX11_shift ki_134 rfl
theorem dX11_shift_98 : decode cX11_shift 98 = .ok (.ireturn, 1) := kd_r kbX11_shift ki_7 rfl
set_option maxRecDepth 20000 in
theorem ggX11_taken_X11_knownShelf : GoodIn wsX11_taken wsX11_knownShelf := goodIn_r _ [6, 7, 42, 43, 44, 45, 46, 47, 48, 49, 50, 51, 52, 53, 54, 55] rfl (by decide +kernel)
set_option maxRecDepth 20000 in
theorem gX11_taken_X11_knownShelf : GoodIn wsX11_taken (wsV RX11 114 RX11 yX11_knownShelf wsX11_knownShelf) := goodIn_app (goodIn_of _ (by decide +kernel)) ggX11_taken_X11_knownShelf
set_option maxRecDepth 20000 in
theorem ggX11_taken_X5_isKind : GoodIn wsX11_taken wsX5_isKind := goodIn_r _ [11] rfl (by decide +kernel)
set_option maxRecDepth 20000 in
theorem gX11_taken_X5_isKind : GoodIn wsX11_taken (va_wsS RX11 314 yX5_isKind wsX5_isKind) := goodIn_app (goodIn_of _ (by decide +kernel)) ggX11_taken_X5_isKind
set_option maxRecDepth 20000 in
theorem ggX11_taken_X8_isEmpty : GoodIn wsX11_taken wsX8_isEmpty := goodIn_r _ [16, 17, 56, 57, 58, 59] rfl (by decide +kernel)
set_option maxRecDepth 20000 in
theorem gX11_taken_X8_isEmpty : GoodIn wsX11_taken (wsV RX11 118 RX8 yX8_isEmpty wsX8_isEmpty) := goodIn_app (goodIn_of _ (by decide +kernel)) ggX11_taken_X8_isEmpty
set_option maxRecDepth 20000 in
theorem ggX11_taken_X8_holdsLine : GoodIn wsX11_taken wsX8_holdsLine := goodIn_r _ [21, 17, 56, 57, 58, 59] rfl (by decide +kernel)
set_option maxRecDepth 20000 in
theorem gX11_taken_X8_holdsLine : GoodIn wsX11_taken (wsV RX11 366 RX8 yX8_holdsLine wsX8_holdsLine) := goodIn_app (goodIn_of _ (by decide +kernel)) ggX11_taken_X8_holdsLine
set_option maxRecDepth 20000 in
theorem ggX11_taken_X8_line : GoodIn wsX11_taken wsX8_line := goodIn_r _ [25, 26, 56, 57, 58, 59] rfl (by decide +kernel)
set_option maxRecDepth 20000 in
theorem gX11_taken_X8_line : GoodIn wsX11_taken (wsV RX11 369 RX8 yX8_line wsX8_line) := goodIn_app (goodIn_of _ (by decide +kernel)) ggX11_taken_X8_line
set_option maxRecDepth 20000 in
theorem ggX11_taken_X5_kindOf : GoodIn wsX11_taken wsX5_kindOf := goodIn_r _ [30, 31, 32, 33, 34, 10, 35, 36, 60, 61, 62, 63] rfl (by decide +kernel)
set_option maxRecDepth 20000 in
theorem gX11_taken_X5_kindOf : GoodIn wsX11_taken (wsV RX11 372 RX5 yX5_kindOf wsX5_kindOf) := goodIn_app (goodIn_of _ (by decide +kernel)) ggX11_taken_X5_kindOf
set_option maxRecDepth 20000 in
theorem ggX11_taken_X5_isUnder : GoodIn wsX11_taken wsX5_isUnder := goodIn_r _ [39, 40, 41, 9, 10, 11] rfl (by decide +kernel)
set_option maxRecDepth 20000 in
theorem gX11_taken_X5_isUnder : GoodIn wsX11_taken (va_wsS RX11 375 yX5_isUnder wsX5_isUnder) := goodIn_app (goodIn_of _ (by decide +kernel)) ggX11_taken_X5_isUnder
theorem dX11_taken_0 : decode cX11_taken 0 = .ok (.aload_n 0, 1) := kd_r kbX11_taken ki_0 rfl
theorem dX11_taken_1 : decode cX11_taken 1 = .ok (.iload_n 1, 1) := kd_r kbX11_taken ki_8 rfl
theorem dX11_taken_2 : decode cX11_taken 2 = .ok (.invokevirtual 114, 3) := kd_r kbX11_taken ki_533 rfl
theorem dX11_taken_5 : decode cX11_taken 5 = .ok (.astore_n 3, 1) := kd_r kbX11_taken ki_553 rfl
theorem dX11_taken_6 : decode cX11_taken 6 = .ok (.aload_n 3, 1) := kd_r kbX11_taken ki_554 rfl
theorem dX11_taken_7 : decode cX11_taken 7 = .ok (.ifnull 10, 3) := kd_r kbX11_taken ki_697 rfl
theorem dX11_taken_10 : decode cX11_taken 10 = .ok (.iload_n 2, 1) := kd_r kbX11_taken ki_11 rfl
theorem dX11_taken_11 : decode cX11_taken 11 = .ok (.invokestatic 314, 3) := kd_r kbX11_taken ki_673 rfl
theorem dX11_taken_14 : decode cX11_taken 14 = .ok (.ifCond .ne 5, 3) := kd_r kbX11_taken ki_36 rfl
theorem dX11_taken_17 : decode cX11_taken 17 = .ok (.iconst (-1), 1) := kd_r kbX11_taken ki_99 rfl
theorem dX11_taken_18 : decode cX11_taken 18 = .ok (.ireturn, 1) := kd_r kbX11_taken ki_7 rfl
theorem dX11_taken_19 : decode cX11_taken 19 = .ok (.aload_n 3, 1) := kd_r kbX11_taken ki_554 rfl
theorem dX11_taken_20 : decode cX11_taken 20 = .ok (.invokevirtual 118, 3) := kd_r kbX11_taken ki_538 rfl
theorem dX11_taken_23 : decode cX11_taken 23 = .ok (.ifCond .eq 6, 3) := kd_r kbX11_taken ki_292 rfl
theorem dX11_taken_26 : decode cX11_taken 26 = .ok (.bipush (-11), 2) := kd_r kbX11_taken ki_387 rfl
theorem dX11_taken_28 : decode cX11_taken 28 = .ok (.ireturn, 1) := kd_r kbX11_taken ki_7 rfl
theorem dX11_taken_29 : decode cX11_taken 29 = .ok (.aload_n 3, 1) := kd_r kbX11_taken ki_554 rfl
theorem dX11_taken_30 : decode cX11_taken 30 = .ok (.invokevirtual 366, 3) := kd_r kbX11_taken ki_698 rfl
theorem dX11_taken_33 : decode cX11_taken 33 = .ok (.ifCond .eq 17, 3) := kd_r kbX11_taken ki_96 rfl
theorem dX11_taken_36 : decode cX11_taken 36 = .ok (.aload_n 0, 1) := kd_r kbX11_taken ki_0 rfl
theorem dX11_taken_37 : decode cX11_taken 37 = .ok (.getfield 78, 3) := kd_r kbX11_taken ki_674 rfl
theorem dX11_taken_40 : decode cX11_taken 40 = .ok (.aload_n 3, 1) := kd_r kbX11_taken ki_554 rfl
theorem dX11_taken_41 : decode cX11_taken 41 = .ok (.invokevirtual 369, 3) := kd_r kbX11_taken ki_699 rfl
theorem dX11_taken_44 : decode cX11_taken 44 = .ok (.invokevirtual 372, 3) := kd_r kbX11_taken ki_700 rfl
theorem dX11_taken_47 : decode cX11_taken 47 = .ok (.goto 4, 3) := kd_r kbX11_taken ki_19 rfl
theorem dX11_taken_50 : decode cX11_taken 50 = .ok (.iconst (-1), 1) := kd_r kbX11_taken ki_99 rfl
theorem dX11_taken_51 : decode cX11_taken 51 = .ok (.istore 4, 2) := kd_r kbX11_taken ki_129 rfl
theorem dX11_taken_53 : decode cX11_taken 53 = .ok (.iload 4, 2) := kd_r kbX11_taken ki_57 rfl
theorem dX11_taken_55 : decode cX11_taken 55 = .ok (.iload_n 2, 1) := kd_r kbX11_taken ki_11 rfl
theorem dX11_taken_56 : decode cX11_taken 56 = .ok (.invokestatic 375, 3) := kd_r kbX11_taken ki_701 rfl
theorem dX11_taken_59 : decode cX11_taken 59 = .ok (.ifCond .eq 8, 3) := kd_r kbX11_taken ki_624 rfl
theorem dX11_taken_62 : decode cX11_taken 62 = .ok (.iload 4, 2) := kd_r kbX11_taken ki_57 rfl
theorem dX11_taken_64 : decode cX11_taken 64 = .ok (.goto 5, 3) := kd_r kbX11_taken ki_342 rfl
theorem dX11_taken_67 : decode cX11_taken 67 = .ok (.bipush (-12), 2) := kd_r kbX11_taken ki_389 rfl
theorem dX11_taken_69 : decode cX11_taken 69 = .ok (.ireturn, 1) := kd_r kbX11_taken ki_7 rfl
set_option maxRecDepth 20000 in
theorem ggX11_count_X2_size : GoodIn wsX11_count wsX2_size := goodIn_r _ [12, 13, 57, 58, 59, 60, 61, 62, 63, 64, 65, 66, 67, 68, 69] rfl (by decide +kernel)
set_option maxRecDepth 20000 in
theorem gX11_count_X2_size : GoodIn wsX11_count (wsV RX11 378 RX2 yX2_size wsX2_size) := goodIn_app (goodIn_of _ (by decide +kernel)) ggX11_count_X2_size
set_option maxRecDepth 20000 in
theorem ggX11_count_X10_size : GoodIn wsX11_count wsX10_size := goodIn_r _ [18, 19, 70, 71, 72, 73] rfl (by decide +kernel)
set_option maxRecDepth 20000 in
theorem gX11_count_X10_size : GoodIn wsX11_count (wsV RX11 379 RX10 yX10_size wsX10_size) := goodIn_app (goodIn_of _ (by decide +kernel)) ggX11_count_X10_size
set_option maxRecDepth 20000 in
theorem ggX11_count_X0_size : GoodIn wsX11_count wsX0_size := goodIn_r _ [24, 25, 74, 75] rfl (by decide +kernel)
set_option maxRecDepth 20000 in
theorem gX11_count_X0_size : GoodIn wsX11_count (wsV RX11 380 RX0 yX0_size wsX0_size) := goodIn_app (goodIn_of _ (by decide +kernel)) ggX11_count_X0_size
set_option maxRecDepth 20000 in
theorem ggX11_count_X1_undoable : GoodIn wsX11_count wsX1_undoable := goodIn_r _ [30, 31, 76, 77, 78, 79, 80, 81] rfl (by decide +kernel)
set_option maxRecDepth 20000 in
theorem gX11_count_X1_undoable : GoodIn wsX11_count (wsV RX11 290 RX1 yX1_undoable wsX1_undoable) := goodIn_app (goodIn_of _ (by decide +kernel)) ggX11_count_X1_undoable
set_option maxRecDepth 20000 in
theorem ggX11_count_X5_size : GoodIn wsX11_count wsX5_size := goodIn_r _ [36, 37, 82, 83, 84, 85] rfl (by decide +kernel)
set_option maxRecDepth 20000 in
theorem gX11_count_X5_size : GoodIn wsX11_count (wsV RX11 381 RX5 yX5_size wsX5_size) := goodIn_app (goodIn_of _ (by decide +kernel)) ggX11_count_X5_size
set_option maxRecDepth 20000 in
theorem ggX11_count_X5_bodiesThatRan : GoodIn wsX11_count wsX5_bodiesThatRan := goodIn_r _ [41, 42, 82, 83, 84, 85] rfl (by decide +kernel)
set_option maxRecDepth 20000 in
theorem gX11_count_X5_bodiesThatRan : GoodIn wsX11_count (wsV RX11 382 RX5 yX5_bodiesThatRan wsX5_bodiesThatRan) := goodIn_app (goodIn_of _ (by decide +kernel)) ggX11_count_X5_bodiesThatRan
theorem dX11_count_0 : decode cX11_count 0 = .ok (.iload_n 1, 1) := kd_r kbX11_count ki_8 rfl
theorem dX11_count_1 : decode cX11_count 1 = .ok (.tableswitch 105 0 7 #[47, 52, 60, 65, 73, 81, 89, 97], 47) := by decide +kernel
theorem dX11_count_48 : decode cX11_count 48 = .ok (.aload_n 0, 1) := kd_r kbX11_count ki_0 rfl
theorem dX11_count_49 : decode cX11_count 49 = .ok (.getfield 90, 3) := kd_r kbX11_count ki_522 rfl
theorem dX11_count_52 : decode cX11_count 52 = .ok (.ireturn, 1) := kd_r kbX11_count ki_7 rfl
theorem dX11_count_53 : decode cX11_count 53 = .ok (.aload_n 0, 1) := kd_r kbX11_count ki_0 rfl
theorem dX11_count_54 : decode cX11_count 54 = .ok (.getfield 58, 3) := kd_r kbX11_count ki_622 rfl
theorem dX11_count_57 : decode cX11_count 57 = .ok (.invokevirtual 378, 3) := kd_r kbX11_count ki_702 rfl
theorem dX11_count_60 : decode cX11_count 60 = .ok (.ireturn, 1) := kd_r kbX11_count ki_7 rfl
theorem dX11_count_61 : decode cX11_count 61 = .ok (.aload_n 0, 1) := kd_r kbX11_count ki_0 rfl
theorem dX11_count_62 : decode cX11_count 62 = .ok (.getfield 259, 3) := kd_r kbX11_count ki_643 rfl
theorem dX11_count_65 : decode cX11_count 65 = .ok (.ireturn, 1) := kd_r kbX11_count ki_7 rfl
theorem dX11_count_66 : decode cX11_count 66 = .ok (.aload_n 0, 1) := kd_r kbX11_count ki_0 rfl
theorem dX11_count_67 : decode cX11_count 67 = .ok (.getfield 65, 3) := kd_r kbX11_count ki_639 rfl
theorem dX11_count_70 : decode cX11_count 70 = .ok (.invokevirtual 379, 3) := kd_r kbX11_count ki_703 rfl
theorem dX11_count_73 : decode cX11_count 73 = .ok (.ireturn, 1) := kd_r kbX11_count ki_7 rfl
theorem dX11_count_74 : decode cX11_count 74 = .ok (.aload_n 0, 1) := kd_r kbX11_count ki_0 rfl
theorem dX11_count_75 : decode cX11_count 75 = .ok (.getfield 51, 3) := kd_r kbX11_count ki_597 rfl
theorem dX11_count_78 : decode cX11_count 78 = .ok (.invokevirtual 380, 3) := kd_r kbX11_count ki_704 rfl
theorem dX11_count_81 : decode cX11_count 81 = .ok (.ireturn, 1) := kd_r kbX11_count ki_7 rfl
theorem dX11_count_82 : decode cX11_count 82 = .ok (.aload_n 0, 1) := kd_r kbX11_count ki_0 rfl
theorem dX11_count_83 : decode cX11_count 83 = .ok (.getfield 23, 3) := kd_r kbX11_count ki_327 rfl
theorem dX11_count_86 : decode cX11_count 86 = .ok (.invokevirtual 290, 3) := kd_r kbX11_count ki_663 rfl
theorem dX11_count_89 : decode cX11_count 89 = .ok (.ireturn, 1) := kd_r kbX11_count ki_7 rfl
theorem dX11_count_90 : decode cX11_count 90 = .ok (.aload_n 0, 1) := kd_r kbX11_count ki_0 rfl
theorem dX11_count_91 : decode cX11_count 91 = .ok (.getfield 78, 3) := kd_r kbX11_count ki_674 rfl
theorem dX11_count_94 : decode cX11_count 94 = .ok (.invokevirtual 381, 3) := kd_r kbX11_count ki_705 rfl
theorem dX11_count_97 : decode cX11_count 97 = .ok (.ireturn, 1) := kd_r kbX11_count ki_7 rfl
theorem dX11_count_98 : decode cX11_count 98 = .ok (.aload_n 0, 1) := kd_r kbX11_count ki_0 rfl
theorem dX11_count_99 : decode cX11_count 99 = .ok (.getfield 78, 3) := kd_r kbX11_count ki_674 rfl
theorem dX11_count_102 : decode cX11_count 102 = .ok (.invokevirtual 382, 3) := kd_r kbX11_count ki_706 rfl
theorem dX11_count_105 : decode cX11_count 105 = .ok (.ireturn, 1) := kd_r kbX11_count ki_7 rfl
theorem dX11_count_106 : decode cX11_count 106 = .ok (.iconst (-1), 1) := kd_r kbX11_count ki_99 rfl
theorem dX11_count_107 : decode cX11_count 107 = .ok (.ireturn, 1) := kd_r kbX11_count ki_7 rfl
theorem dX11_knownStreet_0 : decode cX11_knownStreet 0 = .ok (.iload_n 1, 1) := kd_r kbX11_knownStreet ki_8 rfl
theorem dX11_knownStreet_1 : decode cX11_knownStreet 1 = .ok (.ifCond .lt 29, 3) := kd_r kbX11_knownStreet ki_391 rfl
theorem dX11_knownStreet_4 : decode cX11_knownStreet 4 = .ok (.iload_n 1, 1) := kd_r kbX11_knownStreet ki_8 rfl
theorem dX11_knownStreet_5 : decode cX11_knownStreet 5 = .ok (.aload_n 0, 1) := kd_r kbX11_knownStreet ki_0 rfl
theorem dX11_knownStreet_6 : decode cX11_knownStreet 6 = .ok (.getfield 90, 3) := kd_r kbX11_knownStreet ki_522 rfl
theorem dX11_knownStreet_9 : decode cX11_knownStreet 9 = .ok (.if_icmp .ge 21, 3) := kd_r kbX11_knownStreet ki_226 rfl
theorem dX11_knownStreet_12 : decode cX11_knownStreet 12 = .ok (.iload_n 1, 1) := kd_r kbX11_knownStreet ki_8 rfl
theorem dX11_knownStreet_13 : decode cX11_knownStreet 13 = .ok (.aload_n 0, 1) := kd_r kbX11_knownStreet ki_0 rfl
theorem dX11_knownStreet_14 : decode cX11_knownStreet 14 = .ok (.getfield 11, 3) := kd_r kbX11_knownStreet ki_86 rfl
theorem dX11_knownStreet_17 : decode cX11_knownStreet 17 = .ok (.arraylength, 1) := kd_r kbX11_knownStreet ki_33 rfl
theorem dX11_knownStreet_18 : decode cX11_knownStreet 18 = .ok (.if_icmp .ge 12, 3) := kd_r kbX11_knownStreet ki_298 rfl
theorem dX11_knownStreet_21 : decode cX11_knownStreet 21 = .ok (.aload_n 0, 1) := kd_r kbX11_knownStreet ki_0 rfl
theorem dX11_knownStreet_22 : decode cX11_knownStreet 22 = .ok (.getfield 11, 3) := kd_r kbX11_knownStreet ki_86 rfl
theorem dX11_knownStreet_25 : decode cX11_knownStreet 25 = .ok (.iload_n 1, 1) := kd_r kbX11_knownStreet ki_8 rfl
theorem dX11_knownStreet_26 : decode cX11_knownStreet 26 = .ok (.aaload, 1) := kd_r kbX11_knownStreet ki_137 rfl
theorem dX11_knownStreet_27 : decode cX11_knownStreet 27 = .ok (.goto 4, 3) := kd_r kbX11_knownStreet ki_19 rfl
theorem dX11_knownStreet_30 : decode cX11_knownStreet 30 = .ok (.aconst_null, 1) := kd_r kbX11_knownStreet ki_542 rfl
theorem dX11_knownStreet_31 : decode cX11_knownStreet 31 = .ok (.areturn, 1) := kd_r kbX11_knownStreet ki_417 rfl
theorem dX11_knownLaw_0 : decode cX11_knownLaw 0 = .ok (.iload_n 1, 1) := kd_r kbX11_knownLaw ki_8 rfl
theorem dX11_knownLaw_1 : decode cX11_knownLaw 1 = .ok (.ifCond .lt 29, 3) := kd_r kbX11_knownLaw ki_391 rfl
theorem dX11_knownLaw_4 : decode cX11_knownLaw 4 = .ok (.iload_n 1, 1) := kd_r kbX11_knownLaw ki_8 rfl
theorem dX11_knownLaw_5 : decode cX11_knownLaw 5 = .ok (.aload_n 0, 1) := kd_r kbX11_knownLaw ki_0 rfl
theorem dX11_knownLaw_6 : decode cX11_knownLaw 6 = .ok (.getfield 259, 3) := kd_r kbX11_knownLaw ki_643 rfl
theorem dX11_knownLaw_9 : decode cX11_knownLaw 9 = .ok (.if_icmp .ge 21, 3) := kd_r kbX11_knownLaw ki_226 rfl
theorem dX11_knownLaw_12 : decode cX11_knownLaw 12 = .ok (.iload_n 1, 1) := kd_r kbX11_knownLaw ki_8 rfl
theorem dX11_knownLaw_13 : decode cX11_knownLaw 13 = .ok (.aload_n 0, 1) := kd_r kbX11_knownLaw ki_0 rfl
theorem dX11_knownLaw_14 : decode cX11_knownLaw 14 = .ok (.getfield 71, 3) := kd_r kbX11_knownLaw ki_516 rfl
theorem dX11_knownLaw_17 : decode cX11_knownLaw 17 = .ok (.arraylength, 1) := kd_r kbX11_knownLaw ki_33 rfl
theorem dX11_knownLaw_18 : decode cX11_knownLaw 18 = .ok (.if_icmp .ge 12, 3) := kd_r kbX11_knownLaw ki_298 rfl
theorem dX11_knownLaw_21 : decode cX11_knownLaw 21 = .ok (.aload_n 0, 1) := kd_r kbX11_knownLaw ki_0 rfl
theorem dX11_knownLaw_22 : decode cX11_knownLaw 22 = .ok (.getfield 71, 3) := kd_r kbX11_knownLaw ki_516 rfl
theorem dX11_knownLaw_25 : decode cX11_knownLaw 25 = .ok (.iload_n 1, 1) := kd_r kbX11_knownLaw ki_8 rfl
theorem dX11_knownLaw_26 : decode cX11_knownLaw 26 = .ok (.aaload, 1) := kd_r kbX11_knownLaw ki_137 rfl
theorem dX11_knownLaw_27 : decode cX11_knownLaw 27 = .ok (.goto 4, 3) := kd_r kbX11_knownLaw ki_19 rfl
theorem dX11_knownLaw_30 : decode cX11_knownLaw 30 = .ok (.aconst_null, 1) := kd_r kbX11_knownLaw ki_542 rfl
theorem dX11_knownLaw_31 : decode cX11_knownLaw 31 = .ok (.areturn, 1) := kd_r kbX11_knownLaw ki_417 rfl
theorem dX11_knownShelf_0 : decode cX11_knownShelf 0 = .ok (.iload_n 1, 1) := kd_r kbX11_knownShelf ki_8 rfl
theorem dX11_knownShelf_1 : decode cX11_knownShelf 1 = .ok (.ifCond .lt 21, 3) := kd_r kbX11_knownShelf ki_326 rfl
theorem dX11_knownShelf_4 : decode cX11_knownShelf 4 = .ok (.iload_n 1, 1) := kd_r kbX11_knownShelf ki_8 rfl
theorem dX11_knownShelf_5 : decode cX11_knownShelf 5 = .ok (.aload_n 0, 1) := kd_r kbX11_knownShelf ki_0 rfl
theorem dX11_knownShelf_6 : decode cX11_knownShelf 6 = .ok (.getfield 84, 3) := kd_r kbX11_knownShelf ki_519 rfl
theorem dX11_knownShelf_9 : decode cX11_knownShelf 9 = .ok (.arraylength, 1) := kd_r kbX11_knownShelf ki_33 rfl
theorem dX11_knownShelf_10 : decode cX11_knownShelf 10 = .ok (.if_icmp .ge 12, 3) := kd_r kbX11_knownShelf ki_298 rfl
theorem dX11_knownShelf_13 : decode cX11_knownShelf 13 = .ok (.aload_n 0, 1) := kd_r kbX11_knownShelf ki_0 rfl
theorem dX11_knownShelf_14 : decode cX11_knownShelf 14 = .ok (.getfield 84, 3) := kd_r kbX11_knownShelf ki_519 rfl
theorem dX11_knownShelf_17 : decode cX11_knownShelf 17 = .ok (.iload_n 1, 1) := kd_r kbX11_knownShelf ki_8 rfl
theorem dX11_knownShelf_18 : decode cX11_knownShelf 18 = .ok (.aaload, 1) := kd_r kbX11_knownShelf ki_137 rfl
theorem dX11_knownShelf_19 : decode cX11_knownShelf 19 = .ok (.goto 4, 3) := kd_r kbX11_knownShelf ki_19 rfl
theorem dX11_knownShelf_22 : decode cX11_knownShelf 22 = .ok (.aconst_null, 1) := kd_r kbX11_knownShelf ki_542 rfl
theorem dX11_knownShelf_23 : decode cX11_knownShelf 23 = .ok (.areturn, 1) := kd_r kbX11_knownShelf ki_417 rfl
theorem dX11_isTown_0 : decode cX11_isTown 0 = .ok (.iload_n 0, 1) := kd_r kbX11_isTown ki_40 rfl
theorem dX11_isTown_1 : decode cX11_isTown 1 = .ok (.sipush 2000, 3) := kd_r kbX11_isTown ki_707 rfl
theorem dX11_isTown_4 : decode cX11_isTown 4 = .ok (.if_icmp .lt 22, 3) := kd_r kbX11_isTown ki_708 rfl
theorem dX11_isTown_7 : decode cX11_isTown 7 = .ok (.iload_n 0, 1) := kd_r kbX11_isTown ki_40 rfl
theorem dX11_isTown_8 : decode cX11_isTown 8 = .ok (.ldc_w 385, 3) := kd_r kbX11_isTown ki_709 rfl
theorem dX11_isTown_11 : decode cX11_isTown 11 = .ok (.if_icmp .ge 15, 3) := kd_r kbX11_isTown ki_210 rfl
theorem dX11_isTown_14 : decode cX11_isTown 14 = .ok (.iload_n 0, 1) := kd_r kbX11_isTown ki_40 rfl
theorem dX11_isTown_15 : decode cX11_isTown 15 = .ok (.sipush 1000, 3) := kd_r kbX11_isTown ki_188 rfl
theorem dX11_isTown_18 : decode cX11_isTown 18 = .ok (.irem, 1) := kd_r kbX11_isTown ki_227 rfl
theorem dX11_isTown_19 : decode cX11_isTown 19 = .ok (.ifCond .le 7, 3) := kd_r kbX11_isTown ki_710 rfl
theorem dX11_isTown_22 : decode cX11_isTown 22 = .ok (.iconst 1, 1) := kd_r kbX11_isTown ki_16 rfl
theorem dX11_isTown_23 : decode cX11_isTown 23 = .ok (.goto 4, 3) := kd_r kbX11_isTown ki_19 rfl
theorem dX11_isTown_26 : decode cX11_isTown 26 = .ok (.iconst 0, 1) := kd_r kbX11_isTown ki_20 rfl
theorem dX11_isTown_27 : decode cX11_isTown 27 = .ok (.ireturn, 1) := kd_r kbX11_isTown ki_7 rfl
theorem dX11_drawAfter_0 : decode cX11_drawAfter 0 = .ok (.iload_n 0, 1) := kd_r kbX11_drawAfter ki_40 rfl
theorem dX11_drawAfter_1 : decode cX11_drawAfter 1 = .ok (.ldc_w 386, 3) := kd_r kbX11_drawAfter ki_711 rfl
theorem dX11_drawAfter_4 : decode cX11_drawAfter 4 = .ok (.imul, 1) := kd_r kbX11_drawAfter ki_114 rfl
theorem dX11_drawAfter_5 : decode cX11_drawAfter 5 = .ok (.sipush 12345, 3) := kd_r kbX11_drawAfter ki_712 rfl
theorem dX11_drawAfter_8 : decode cX11_drawAfter 8 = .ok (.iadd, 1) := kd_r kbX11_drawAfter ki_30 rfl
theorem dX11_drawAfter_9 : decode cX11_drawAfter 9 = .ok (.ireturn, 1) := kd_r kbX11_drawAfter ki_7 rfl
set_option maxRecDepth 20000 in
theorem ggX11_plotCame_X9_isFull : GoodIn wsX11_plotCame wsX9_isFull := goodIn_r _ [5, 6, 39, 40, 41, 42] rfl (by decide +kernel)
set_option maxRecDepth 20000 in
theorem gX11_plotCame_X9_isFull : GoodIn wsX11_plotCame (wsV RX11 102 RX9 yX9_isFull wsX9_isFull) := goodIn_app (goodIn_of _ (by decide +kernel)) ggX11_plotCame_X9_isFull
set_option maxRecDepth 20000 in
theorem ggX11_plotCame_X8_spans : GoodIn wsX11_plotCame wsX8_spans := goodIn_r _ [11, 12, 43, 44, 45, 46] rfl (by decide +kernel)
set_option maxRecDepth 20000 in
theorem gX11_plotCame_X8_spans : GoodIn wsX11_plotCame (wsV RX11 359 RX8 yX8_spans wsX8_spans) := goodIn_app (goodIn_of _ (by decide +kernel)) ggX11_plotCame_X8_spans
set_option maxRecDepth 20000 in
theorem ggX11_plotCame_X8_read : GoodIn wsX11_plotCame wsX8_read := goodIn_r _ [16, 17, 18, 8, 9, 10, 11, 12, 43, 44, 45, 46] rfl (by decide +kernel)
set_option maxRecDepth 20000 in
theorem gX11_plotCame_X8_read : GoodIn wsX11_plotCame (wsV RX11 351 RX8 yX8_read wsX8_read) := goodIn_app (goodIn_of _ (by decide +kernel)) ggX11_plotCame_X8_read
set_option maxRecDepth 20000 in
theorem ggX11_plotCame_X9_wouldTake : GoodIn wsX11_plotCame wsX9_wouldTake := goodIn_r _ [22, 6, 23, 24, 25, 4, 26, 39, 40, 41, 42] rfl (by decide +kernel)
set_option maxRecDepth 20000 in
theorem gX11_plotCame_X9_wouldTake : GoodIn wsX11_plotCame (wsV RX11 98 RX9 yX9_wouldTake wsX9_wouldTake) := goodIn_app (goodIn_of _ (by decide +kernel)) ggX11_plotCame_X9_wouldTake
set_option maxRecDepth 20000 in
theorem ggX11_plotCame_X9_append : GoodIn wsX11_plotCame wsX9_append := goodIn_r _ [30, 6, 31, 32, 33, 4, 34, 35, 36, 37, 38, 2, 3, 5, 39, 40, 41, 42] rfl (by decide +kernel)
set_option maxRecDepth 20000 in
theorem gX11_plotCame_X9_append : GoodIn wsX11_plotCame (wsV RX11 106 RX9 yX9_append wsX9_append) := goodIn_app (goodIn_of _ (by decide +kernel)) ggX11_plotCame_X9_append
theorem dX11_plotCame_0 : decode cX11_plotCame 0 = .ok (.aload_n 0, 1) := kd_r kbX11_plotCame ki_0 rfl
theorem dX11_plotCame_1 : decode cX11_plotCame 1 = .ok (.invokevirtual 102, 3) := kd_r kbX11_plotCame ki_530 rfl
theorem dX11_plotCame_4 : decode cX11_plotCame 4 = .ok (.ifCond .ne 12, 3) := kd_r kbX11_plotCame ki_713 rfl
theorem dX11_plotCame_7 : decode cX11_plotCame 7 = .ok (.aload_n 1, 1) := kd_r kbX11_plotCame ki_69 rfl
theorem dX11_plotCame_8 : decode cX11_plotCame 8 = .ok (.iload_n 2, 1) := kd_r kbX11_plotCame ki_11 rfl
theorem dX11_plotCame_9 : decode cX11_plotCame 9 = .ok (.iconst 3, 1) := kd_r kbX11_plotCame ki_246 rfl
theorem dX11_plotCame_10 : decode cX11_plotCame 10 = .ok (.invokevirtual 359, 3) := kd_r kbX11_plotCame ki_695 rfl
theorem dX11_plotCame_13 : decode cX11_plotCame 13 = .ok (.ifCond .ne 5, 3) := kd_r kbX11_plotCame ki_36 rfl
theorem dX11_plotCame_16 : decode cX11_plotCame 16 = .ok (.iconst 0, 1) := kd_r kbX11_plotCame ki_20 rfl
theorem dX11_plotCame_17 : decode cX11_plotCame 17 = .ok (.ireturn, 1) := kd_r kbX11_plotCame ki_7 rfl
theorem dX11_plotCame_18 : decode cX11_plotCame 18 = .ok (.aload_n 1, 1) := kd_r kbX11_plotCame ki_69 rfl
theorem dX11_plotCame_19 : decode cX11_plotCame 19 = .ok (.iload_n 2, 1) := kd_r kbX11_plotCame ki_11 rfl
theorem dX11_plotCame_20 : decode cX11_plotCame 20 = .ok (.invokevirtual 351, 3) := kd_r kbX11_plotCame ki_690 rfl
theorem dX11_plotCame_23 : decode cX11_plotCame 23 = .ok (.l2i, 1) := kd_r kbX11_plotCame ki_397 rfl
theorem dX11_plotCame_24 : decode cX11_plotCame 24 = .ok (.istore_n 3, 1) := kd_r kbX11_plotCame ki_108 rfl
theorem dX11_plotCame_25 : decode cX11_plotCame 25 = .ok (.aload_n 1, 1) := kd_r kbX11_plotCame ki_69 rfl
theorem dX11_plotCame_26 : decode cX11_plotCame 26 = .ok (.iload_n 2, 1) := kd_r kbX11_plotCame ki_11 rfl
theorem dX11_plotCame_27 : decode cX11_plotCame 27 = .ok (.iconst 1, 1) := kd_r kbX11_plotCame ki_16 rfl
theorem dX11_plotCame_28 : decode cX11_plotCame 28 = .ok (.iadd, 1) := kd_r kbX11_plotCame ki_30 rfl
theorem dX11_plotCame_29 : decode cX11_plotCame 29 = .ok (.invokevirtual 351, 3) := kd_r kbX11_plotCame ki_690 rfl
theorem dX11_plotCame_32 : decode cX11_plotCame 32 = .ok (.l2i, 1) := kd_r kbX11_plotCame ki_397 rfl
theorem dX11_plotCame_33 : decode cX11_plotCame 33 = .ok (.istore 4, 2) := kd_r kbX11_plotCame ki_129 rfl
theorem dX11_plotCame_35 : decode cX11_plotCame 35 = .ok (.aload_n 1, 1) := kd_r kbX11_plotCame ki_69 rfl
theorem dX11_plotCame_36 : decode cX11_plotCame 36 = .ok (.iload_n 2, 1) := kd_r kbX11_plotCame ki_11 rfl
theorem dX11_plotCame_37 : decode cX11_plotCame 37 = .ok (.iconst 2, 1) := kd_r kbX11_plotCame ki_244 rfl
theorem dX11_plotCame_38 : decode cX11_plotCame 38 = .ok (.iadd, 1) := kd_r kbX11_plotCame ki_30 rfl
theorem dX11_plotCame_39 : decode cX11_plotCame 39 = .ok (.invokevirtual 351, 3) := kd_r kbX11_plotCame ki_690 rfl
theorem dX11_plotCame_42 : decode cX11_plotCame 42 = .ok (.l2i, 1) := kd_r kbX11_plotCame ki_397 rfl
theorem dX11_plotCame_43 : decode cX11_plotCame 43 = .ok (.istore 5, 2) := kd_r kbX11_plotCame ki_133 rfl
theorem dX11_plotCame_45 : decode cX11_plotCame 45 = .ok (.aload_n 0, 1) := kd_r kbX11_plotCame ki_0 rfl
theorem dX11_plotCame_46 : decode cX11_plotCame 46 = .ok (.iload_n 3, 1) := kd_r kbX11_plotCame ki_55 rfl
theorem dX11_plotCame_47 : decode cX11_plotCame 47 = .ok (.iload 4, 2) := kd_r kbX11_plotCame ki_57 rfl
theorem dX11_plotCame_49 : decode cX11_plotCame 49 = .ok (.iload 5, 2) := kd_r kbX11_plotCame ki_134 rfl
theorem dX11_plotCame_51 : decode cX11_plotCame 51 = .ok (.invokevirtual 98, 3) := kd_r kbX11_plotCame ki_529 rfl
theorem dX11_plotCame_54 : decode cX11_plotCame 54 = .ok (.ifCond .ne 5, 3) := kd_r kbX11_plotCame ki_36 rfl
theorem dX11_plotCame_57 : decode cX11_plotCame 57 = .ok (.iconst 0, 1) := kd_r kbX11_plotCame ki_20 rfl
theorem dX11_plotCame_58 : decode cX11_plotCame 58 = .ok (.ireturn, 1) := kd_r kbX11_plotCame ki_7 rfl
theorem dX11_plotCame_59 : decode cX11_plotCame 59 = .ok (.aload_n 0, 1) := kd_r kbX11_plotCame ki_0 rfl
theorem dX11_plotCame_60 : decode cX11_plotCame 60 = .ok (.iload_n 3, 1) := kd_r kbX11_plotCame ki_55 rfl
theorem dX11_plotCame_61 : decode cX11_plotCame 61 = .ok (.iload 4, 2) := kd_r kbX11_plotCame ki_57 rfl
theorem dX11_plotCame_63 : decode cX11_plotCame 63 = .ok (.iload 5, 2) := kd_r kbX11_plotCame ki_134 rfl
theorem dX11_plotCame_65 : decode cX11_plotCame 65 = .ok (.invokevirtual 106, 3) := kd_r kbX11_plotCame ki_531 rfl
theorem dX11_plotCame_68 : decode cX11_plotCame 68 = .ok (.iconst 1, 1) := kd_r kbX11_plotCame ki_16 rfl
theorem dX11_plotCame_69 : decode cX11_plotCame 69 = .ok (.ireturn, 1) := kd_r kbX11_plotCame ki_7 rfl
set_option maxRecDepth 20000 in
theorem ggX11_storySeeds_X4_lay : GoodIn wsX11_storySeeds wsX4_lay := goodIn_r _ [6, 7, 8, 9, 10, 11, 12, 13, 14, 15, 16, 17, 18, 19, 20, 21, 22, 23, 24, 25, 26, 27, 28, 29, 30, 31, 32, 33, 34, 35, 36, 37, 38, 5, 39, 40, 41, 42, 43, 44, 45, 46, 47, 48, 49, 50, 51, 52, 53, 54, 55, 56, 57, 58, 59, 60, 61, 62, 63, 64, 65, 66, 67, 68, 69, 70, 71, 72, 73, 74, 75, 76, 77, 78, 79, 80, 81, 82, 83, 84, 85, 86, 87, 88, 89, 90, 91, 92, 93, 94, 95, 96, 97, 98, 99, 100, 101, 102, 103, 104, 105, 106, 107, 108, 109, 110, 111, 112, 113, 114, 115, 116, 117, 118, 138, 139, 140, 141, 142, 143, 144, 145, 146] rfl (by decide +kernel)
set_option maxRecDepth 20000 in
theorem gX11_storySeeds_X4_lay : GoodIn wsX11_storySeeds (wsV RX11 275 RX4 yX4_lay wsX4_lay) := goodIn_app (goodIn_of _ (by decide +kernel)) ggX11_storySeeds_X4_lay
set_option maxRecDepth 20000 in
theorem ggX11_storySeeds_X9_size : GoodIn wsX11_storySeeds wsX9_size := goodIn_r _ [31, 12, 138, 139, 140, 141] rfl (by decide +kernel)
set_option maxRecDepth 20000 in
theorem gX11_storySeeds_X9_size : GoodIn wsX11_storySeeds (wsV RX11 110 RX9 yX9_size wsX9_size) := goodIn_app (goodIn_of _ (by decide +kernel)) ggX11_storySeeds_X9_size
set_option maxRecDepth 20000 in
theorem ggX11_storySeeds_X9_kinks : GoodIn wsX11_storySeeds wsX9_kinks := goodIn_r _ [123, 12, 23, 138, 139, 140, 141] rfl (by decide +kernel)
set_option maxRecDepth 20000 in
theorem gX11_storySeeds_X9_kinks : GoodIn wsX11_storySeeds (wsV RX11 151 RX9 yX9_kinks wsX9_kinks) := goodIn_app (goodIn_of _ (by decide +kernel)) ggX11_storySeeds_X9_kinks
theorem dX11_storySeeds_0 : decode cX11_storySeeds 0 = .ok (.aload 4, 2) := kd_r kbX11_storySeeds ki_526 rfl
theorem dX11_storySeeds_2 : decode cX11_storySeeds 2 = .ok (.ifnonnull 5, 3) := kd_r kbX11_storySeeds ki_655 rfl
theorem dX11_storySeeds_5 : decode cX11_storySeeds 5 = .ok (.iconst 0, 1) := kd_r kbX11_storySeeds ki_20 rfl
theorem dX11_storySeeds_6 : decode cX11_storySeeds 6 = .ok (.ireturn, 1) := kd_r kbX11_storySeeds ki_7 rfl
theorem dX11_storySeeds_7 : decode cX11_storySeeds 7 = .ok (.iconst 0, 1) := kd_r kbX11_storySeeds ki_20 rfl
theorem dX11_storySeeds_8 : decode cX11_storySeeds 8 = .ok (.istore 5, 2) := kd_r kbX11_storySeeds ki_133 rfl
theorem dX11_storySeeds_10 : decode cX11_storySeeds 10 = .ok (.iconst 0, 1) := kd_r kbX11_storySeeds ki_20 rfl
theorem dX11_storySeeds_11 : decode cX11_storySeeds 11 = .ok (.istore 6, 2) := kd_r kbX11_storySeeds ki_199 rfl
theorem dX11_storySeeds_13 : decode cX11_storySeeds 13 = .ok (.iload 6, 2) := kd_r kbX11_storySeeds ki_200 rfl
theorem dX11_storySeeds_15 : decode cX11_storySeeds 15 = .ok (.bipush 20, 2) := kd_r kbX11_storySeeds ki_537 rfl
theorem dX11_storySeeds_17 : decode cX11_storySeeds 17 = .ok (.if_icmp .ge 53, 3) := kd_r kbX11_storySeeds ki_178 rfl
theorem dX11_storySeeds_20 : decode cX11_storySeeds 20 = .ok (.aload 4, 2) := kd_r kbX11_storySeeds ki_526 rfl
theorem dX11_storySeeds_22 : decode cX11_storySeeds 22 = .ok (.aload_n 0, 1) := kd_r kbX11_storySeeds ki_0 rfl
theorem dX11_storySeeds_23 : decode cX11_storySeeds 23 = .ok (.getfield 16, 3) := kd_r kbX11_storySeeds ki_54 rfl
theorem dX11_storySeeds_26 : decode cX11_storySeeds 26 = .ok (.iload_n 2, 1) := kd_r kbX11_storySeeds ki_11 rfl
theorem dX11_storySeeds_27 : decode cX11_storySeeds 27 = .ok (.iload_n 3, 1) := kd_r kbX11_storySeeds ki_55 rfl
theorem dX11_storySeeds_28 : decode cX11_storySeeds 28 = .ok (.iload 6, 2) := kd_r kbX11_storySeeds ki_200 rfl
theorem dX11_storySeeds_30 : decode cX11_storySeeds 30 = .ok (.invokevirtual 275, 3) := kd_r kbX11_storySeeds ki_652 rfl
theorem dX11_storySeeds_33 : decode cX11_storySeeds 33 = .ok (.aload_n 0, 1) := kd_r kbX11_storySeeds ki_0 rfl
theorem dX11_storySeeds_34 : decode cX11_storySeeds 34 = .ok (.getfield 16, 3) := kd_r kbX11_storySeeds ki_54 rfl
theorem dX11_storySeeds_37 : decode cX11_storySeeds 37 = .ok (.invokevirtual 110, 3) := kd_r kbX11_storySeeds ki_532 rfl
theorem dX11_storySeeds_40 : decode cX11_storySeeds 40 = .ok (.aload_n 1, 1) := kd_r kbX11_storySeeds ki_69 rfl
theorem dX11_storySeeds_41 : decode cX11_storySeeds 41 = .ok (.invokevirtual 110, 3) := kd_r kbX11_storySeeds ki_532 rfl
theorem dX11_storySeeds_44 : decode cX11_storySeeds 44 = .ok (.if_icmp .ne 20, 3) := kd_r kbX11_storySeeds ki_405 rfl
theorem dX11_storySeeds_47 : decode cX11_storySeeds 47 = .ok (.aload_n 0, 1) := kd_r kbX11_storySeeds ki_0 rfl
theorem dX11_storySeeds_48 : decode cX11_storySeeds 48 = .ok (.getfield 16, 3) := kd_r kbX11_storySeeds ki_54 rfl
theorem dX11_storySeeds_51 : decode cX11_storySeeds 51 = .ok (.invokevirtual 151, 3) := kd_r kbX11_storySeeds ki_560 rfl
theorem dX11_storySeeds_54 : decode cX11_storySeeds 54 = .ok (.aload_n 1, 1) := kd_r kbX11_storySeeds ki_69 rfl
theorem dX11_storySeeds_55 : decode cX11_storySeeds 55 = .ok (.invokevirtual 151, 3) := kd_r kbX11_storySeeds ki_560 rfl
theorem dX11_storySeeds_58 : decode cX11_storySeeds 58 = .ok (.if_icmp .ne 6, 3) := kd_r kbX11_storySeeds ki_604 rfl
theorem dX11_storySeeds_61 : decode cX11_storySeeds 61 = .ok (.iinc 5 1, 3) := kd_r kbX11_storySeeds ki_143 rfl
theorem dX11_storySeeds_64 : decode cX11_storySeeds 64 = .ok (.iinc 6 1, 3) := kd_r kbX11_storySeeds ki_208 rfl
theorem dX11_storySeeds_67 : decode cX11_storySeeds 67 = .ok (.goto (-54), 3) := kd_r kbX11_storySeeds ki_714 rfl
theorem dX11_storySeeds_70 : decode cX11_storySeeds 70 = .ok (.iload 5, 2) := kd_r kbX11_storySeeds ki_134 rfl
theorem dX11_storySeeds_72 : decode cX11_storySeeds 72 = .ok (.ireturn, 1) := kd_r kbX11_storySeeds ki_7 rfl
set_option maxRecDepth 20000 in
theorem ggX11_likeliestLaw_X11_knownLaw : GoodIn wsX11_likeliestLaw wsX11_knownLaw := goodIn_r _ [6, 1, 7, 134, 135, 136, 137, 138, 139, 140, 141, 142, 143, 144, 145, 146, 147] rfl (by decide +kernel)
set_option maxRecDepth 20000 in
theorem gX11_likeliestLaw_X11_knownLaw : GoodIn wsX11_likeliestLaw (wsV RX11 268 RX11 yX11_knownLaw wsX11_knownLaw) := goodIn_app (goodIn_of _ (by decide +kernel)) ggX11_likeliestLaw_X11_knownLaw
set_option maxRecDepth 20000 in
theorem ggX11_likeliestLaw_X11_storySeeds : GoodIn wsX11_likeliestLaw wsX11_storySeeds := goodIn_r _ [11, 12, 13, 14, 15, 16, 17, 18, 19, 20, 21, 22, 23, 24, 25, 26, 27, 28, 29, 30, 31, 32, 33, 34, 35, 36, 37, 38, 39, 40, 41, 42, 43, 5, 44, 45, 46, 47, 48, 49, 50, 51, 52, 53, 54, 55, 56, 57, 58, 59, 60, 61, 62, 63, 64, 65, 66, 67, 68, 69, 70, 71, 72, 73, 74, 75, 76, 77, 78, 79, 80, 81, 82, 83, 84, 85, 86, 87, 88, 89, 90, 91, 92, 93, 94, 95, 96, 97, 98, 99, 100, 101, 102, 103, 104, 105, 106, 107, 108, 109, 110, 111, 112, 113, 114, 115, 116, 117, 118, 119, 120, 121, 122, 123, 124, 125, 126, 127, 128, 129, 130, 131, 132, 133, 134, 135, 136, 137, 138, 139, 140, 141, 142, 143, 144, 145, 146, 147, 148, 149, 150, 151, 152, 153, 154, 155, 156] rfl (by decide +kernel)
set_option maxRecDepth 20000 in
theorem gX11_likeliestLaw_X11_storySeeds : GoodIn wsX11_likeliestLaw (wsV RX11 283 RX11 yX11_storySeeds wsX11_storySeeds) := goodIn_app (goodIn_of _ (by decide +kernel)) ggX11_likeliestLaw_X11_storySeeds
theorem dX11_likeliestLaw_0 : decode cX11_likeliestLaw 0 = .ok (.iconst 0, 1) := kd_r kbX11_likeliestLaw ki_20 rfl
theorem dX11_likeliestLaw_1 : decode cX11_likeliestLaw 1 = .ok (.istore 4, 2) := kd_r kbX11_likeliestLaw ki_129 rfl
theorem dX11_likeliestLaw_3 : decode cX11_likeliestLaw 3 = .ok (.iconst (-1), 1) := kd_r kbX11_likeliestLaw ki_99 rfl
theorem dX11_likeliestLaw_4 : decode cX11_likeliestLaw 4 = .ok (.istore 5, 2) := kd_r kbX11_likeliestLaw ki_133 rfl
theorem dX11_likeliestLaw_6 : decode cX11_likeliestLaw 6 = .ok (.iconst 0, 1) := kd_r kbX11_likeliestLaw ki_20 rfl
theorem dX11_likeliestLaw_7 : decode cX11_likeliestLaw 7 = .ok (.istore 6, 2) := kd_r kbX11_likeliestLaw ki_199 rfl
theorem dX11_likeliestLaw_9 : decode cX11_likeliestLaw 9 = .ok (.iload 6, 2) := kd_r kbX11_likeliestLaw ki_200 rfl
theorem dX11_likeliestLaw_11 : decode cX11_likeliestLaw 11 = .ok (.aload_n 0, 1) := kd_r kbX11_likeliestLaw ki_0 rfl
theorem dX11_likeliestLaw_12 : decode cX11_likeliestLaw 12 = .ok (.getfield 259, 3) := kd_r kbX11_likeliestLaw ki_643 rfl
theorem dX11_likeliestLaw_15 : decode cX11_likeliestLaw 15 = .ok (.if_icmp .ge 39, 3) := kd_r kbX11_likeliestLaw ki_374 rfl
theorem dX11_likeliestLaw_18 : decode cX11_likeliestLaw 18 = .ok (.aload_n 0, 1) := kd_r kbX11_likeliestLaw ki_0 rfl
theorem dX11_likeliestLaw_19 : decode cX11_likeliestLaw 19 = .ok (.aload_n 1, 1) := kd_r kbX11_likeliestLaw ki_69 rfl
theorem dX11_likeliestLaw_20 : decode cX11_likeliestLaw 20 = .ok (.iload_n 2, 1) := kd_r kbX11_likeliestLaw ki_11 rfl
theorem dX11_likeliestLaw_21 : decode cX11_likeliestLaw 21 = .ok (.iload_n 3, 1) := kd_r kbX11_likeliestLaw ki_55 rfl
theorem dX11_likeliestLaw_22 : decode cX11_likeliestLaw 22 = .ok (.aload_n 0, 1) := kd_r kbX11_likeliestLaw ki_0 rfl
theorem dX11_likeliestLaw_23 : decode cX11_likeliestLaw 23 = .ok (.iload 6, 2) := kd_r kbX11_likeliestLaw ki_200 rfl
theorem dX11_likeliestLaw_25 : decode cX11_likeliestLaw 25 = .ok (.invokevirtual 268, 3) := kd_r kbX11_likeliestLaw ki_650 rfl
theorem dX11_likeliestLaw_28 : decode cX11_likeliestLaw 28 = .ok (.invokevirtual 283, 3) := kd_r kbX11_likeliestLaw ki_659 rfl
theorem dX11_likeliestLaw_31 : decode cX11_likeliestLaw 31 = .ok (.istore 7, 2) := kd_r kbX11_likeliestLaw ki_152 rfl
theorem dX11_likeliestLaw_33 : decode cX11_likeliestLaw 33 = .ok (.iload 7, 2) := kd_r kbX11_likeliestLaw ki_153 rfl
theorem dX11_likeliestLaw_35 : decode cX11_likeliestLaw 35 = .ok (.iload 5, 2) := kd_r kbX11_likeliestLaw ki_134 rfl
theorem dX11_likeliestLaw_37 : decode cX11_likeliestLaw 37 = .ok (.if_icmp .le 11, 3) := kd_r kbX11_likeliestLaw ki_715 rfl
theorem dX11_likeliestLaw_40 : decode cX11_likeliestLaw 40 = .ok (.iload 7, 2) := kd_r kbX11_likeliestLaw ki_153 rfl
theorem dX11_likeliestLaw_42 : decode cX11_likeliestLaw 42 = .ok (.istore 5, 2) := kd_r kbX11_likeliestLaw ki_133 rfl
theorem dX11_likeliestLaw_44 : decode cX11_likeliestLaw 44 = .ok (.iload 6, 2) := kd_r kbX11_likeliestLaw ki_200 rfl
theorem dX11_likeliestLaw_46 : decode cX11_likeliestLaw 46 = .ok (.istore 4, 2) := kd_r kbX11_likeliestLaw ki_129 rfl
theorem dX11_likeliestLaw_48 : decode cX11_likeliestLaw 48 = .ok (.iinc 6 1, 3) := kd_r kbX11_likeliestLaw ki_208 rfl
theorem dX11_likeliestLaw_51 : decode cX11_likeliestLaw 51 = .ok (.goto (-42), 3) := kd_r kbX11_likeliestLaw ki_378 rfl
theorem dX11_likeliestLaw_54 : decode cX11_likeliestLaw 54 = .ok (.iload 4, 2) := kd_r kbX11_likeliestLaw ki_57 rfl
theorem dX11_likeliestLaw_56 : decode cX11_likeliestLaw 56 = .ok (.ireturn, 1) := kd_r kbX11_likeliestLaw ki_7 rfl
theorem dX12_within_0 : decode cX12_within 0 = .ok (.lload_n 0, 1) := kd_r kbX12_within ki_716 rfl
theorem dX12_within_1 : decode cX12_within 1 = .ok (.lload_n 2, 1) := kd_r kbX12_within ki_138 rfl
theorem dX12_within_2 : decode cX12_within 2 = .ok (.lcmp, 1) := kd_r kbX12_within ki_173 rfl
theorem dX12_within_3 : decode cX12_within 3 = .ok (.ifCond .lt 14, 3) := kd_r kbX12_within ki_406 rfl
theorem dX12_within_6 : decode cX12_within 6 = .ok (.lload_n 0, 1) := kd_r kbX12_within ki_716 rfl
theorem dX12_within_7 : decode cX12_within 7 = .ok (.lload 4, 2) := kd_r kbX12_within ki_180 rfl
theorem dX12_within_9 : decode cX12_within 9 = .ok (.lcmp, 1) := kd_r kbX12_within ki_173 rfl
theorem dX12_within_10 : decode cX12_within 10 = .ok (.ifCond .gt 7, 3) := kd_r kbX12_within ki_717 rfl
theorem dX12_within_13 : decode cX12_within 13 = .ok (.iconst 1, 1) := kd_r kbX12_within ki_16 rfl
theorem dX12_within_14 : decode cX12_within 14 = .ok (.goto 4, 3) := kd_r kbX12_within ki_19 rfl
theorem dX12_within_17 : decode cX12_within 17 = .ok (.iconst 0, 1) := kd_r kbX12_within ki_20 rfl
theorem dX12_within_18 : decode cX12_within 18 = .ok (.ireturn, 1) := kd_r kbX12_within ki_7 rfl
theorem dX12_size_0 : decode cX12_size 0 = .ok (.iload_n 0, 1) := kd_r kbX12_size ki_40 rfl
theorem dX12_size_1 : decode cX12_size 1 = .ok (.ifCond .ge 8, 3) := kd_r kbX12_size ki_637 rfl
theorem dX12_size_4 : decode cX12_size 4 = .ok (.iload_n 0, 1) := kd_r kbX12_size ki_40 rfl
theorem dX12_size_5 : decode cX12_size 5 = .ok (.ineg, 1) := kd_r kbX12_size ki_276 rfl
theorem dX12_size_6 : decode cX12_size 6 = .ok (.goto 4, 3) := kd_r kbX12_size ki_19 rfl
theorem dX12_size_9 : decode cX12_size 9 = .ok (.iload_n 0, 1) := kd_r kbX12_size ki_40 rfl
theorem dX12_size_10 : decode cX12_size 10 = .ok (.ireturn, 1) := kd_r kbX12_size ki_7 rfl
theorem dX12_init_0 : decode cX12_init 0 = .ok (.aload_n 0, 1) := kd_r kbX12_init ki_0 rfl
theorem dX12_init_1 : decode cX12_init 1 = .ok (.invokespecial 3, 3) := kd_r kbX12_init ki_1 rfl
theorem dX12_init_4 : decode cX12_init 4 = .ok (.aload_n 0, 1) := kd_r kbX12_init ki_0 rfl
theorem dX12_init_5 : decode cX12_init 5 = .ok (.bipush 7, 2) := kd_r kbX12_init ki_249 rfl
theorem dX12_init_7 : decode cX12_init 7 = .ok (.newarray .int, 2) := kd_r kbX12_init ki_3 rfl
theorem dX12_init_9 : decode cX12_init 9 = .ok (.putfield 9, 3) := kd_r kbX12_init ki_4 rfl
theorem dX12_init_12 : decode cX12_init 12 = .ok (.aload_n 0, 1) := kd_r kbX12_init ki_0 rfl
theorem dX12_init_13 : decode cX12_init 13 = .ok (.sipush 840, 3) := kd_r kbX12_init ki_718 rfl
theorem dX12_init_16 : decode cX12_init 16 = .ok (.newarray .int, 2) := kd_r kbX12_init ki_3 rfl
theorem dX12_init_18 : decode cX12_init 18 = .ok (.putfield 13, 3) := kd_r kbX12_init ki_45 rfl
theorem dX12_init_21 : decode cX12_init 21 = .ok (.aload_n 0, 1) := kd_r kbX12_init ki_0 rfl
theorem dX12_init_22 : decode cX12_init 22 = .ok (.bipush 40, 2) := kd_r kbX12_init ki_44 rfl
theorem dX12_init_24 : decode cX12_init 24 = .ok (.newarray .int, 2) := kd_r kbX12_init ki_3 rfl
theorem dX12_init_26 : decode cX12_init 26 = .ok (.putfield 16, 3) := kd_r kbX12_init ki_46 rfl
theorem dX12_init_29 : decode cX12_init 29 = .ok (.aload_n 0, 1) := kd_r kbX12_init ki_0 rfl
theorem dX12_init_30 : decode cX12_init 30 = .ok (.bipush 40, 2) := kd_r kbX12_init ki_44 rfl
theorem dX12_init_32 : decode cX12_init 32 = .ok (.newarray .int, 2) := kd_r kbX12_init ki_3 rfl
theorem dX12_init_34 : decode cX12_init 34 = .ok (.putfield 19, 3) := kd_r kbX12_init ki_47 rfl
theorem dX12_init_37 : decode cX12_init 37 = .ok (.aload_n 0, 1) := kd_r kbX12_init ki_0 rfl
theorem dX12_init_38 : decode cX12_init 38 = .ok (.bipush 40, 2) := kd_r kbX12_init ki_44 rfl
theorem dX12_init_40 : decode cX12_init 40 = .ok (.newarray .int, 2) := kd_r kbX12_init ki_3 rfl
theorem dX12_init_42 : decode cX12_init 42 = .ok (.putfield 22, 3) := kd_r kbX12_init ki_58 rfl
theorem dX12_init_45 : decode cX12_init 45 = .ok (.aload_n 0, 1) := kd_r kbX12_init ki_0 rfl
theorem dX12_init_46 : decode cX12_init 46 = .ok (.bipush 40, 2) := kd_r kbX12_init ki_44 rfl
theorem dX12_init_48 : decode cX12_init 48 = .ok (.newarray .int, 2) := kd_r kbX12_init ki_3 rfl
theorem dX12_init_50 : decode cX12_init 50 = .ok (.putfield 25, 3) := kd_r kbX12_init ki_223 rfl
theorem dX12_init_53 : decode cX12_init 53 = .ok (.aload_n 0, 1) := kd_r kbX12_init ki_0 rfl
theorem dX12_init_54 : decode cX12_init 54 = .ok (.bipush 41, 2) := kd_r kbX12_init ki_187 rfl
theorem dX12_init_56 : decode cX12_init 56 = .ok (.newarray .int, 2) := kd_r kbX12_init ki_3 rfl
theorem dX12_init_58 : decode cX12_init 58 = .ok (.putfield 28, 3) := kd_r kbX12_init ki_719 rfl
theorem dX12_init_61 : decode cX12_init 61 = .ok (.aload_n 0, 1) := kd_r kbX12_init ki_0 rfl
theorem dX12_init_62 : decode cX12_init 62 = .ok (.bipush 41, 2) := kd_r kbX12_init ki_187 rfl
theorem dX12_init_64 : decode cX12_init 64 = .ok (.newarray .int, 2) := kd_r kbX12_init ki_3 rfl
theorem dX12_init_66 : decode cX12_init 66 = .ok (.putfield 31, 3) := kd_r kbX12_init ki_720 rfl
theorem dX12_init_69 : decode cX12_init 69 = .ok (.aload_n 0, 1) := kd_r kbX12_init ki_0 rfl
theorem dX12_init_70 : decode cX12_init 70 = .ok (.bipush 40, 2) := kd_r kbX12_init ki_44 rfl
theorem dX12_init_72 : decode cX12_init 72 = .ok (.newarray .int, 2) := kd_r kbX12_init ki_3 rfl
theorem dX12_init_74 : decode cX12_init 74 = .ok (.putfield 34, 3) := kd_r kbX12_init ki_721 rfl
theorem dX12_init_77 : decode cX12_init 77 = .ok (.aload_n 0, 1) := kd_r kbX12_init ki_0 rfl
theorem dX12_init_78 : decode cX12_init 78 = .ok (.bipush 40, 2) := kd_r kbX12_init ki_44 rfl
theorem dX12_init_80 : decode cX12_init 80 = .ok (.newarray .int, 2) := kd_r kbX12_init ki_3 rfl
theorem dX12_init_82 : decode cX12_init 82 = .ok (.putfield 37, 3) := kd_r kbX12_init ki_494 rfl
theorem dX12_init_85 : decode cX12_init 85 = .ok (.aload_n 0, 1) := kd_r kbX12_init ki_0 rfl
theorem dX12_init_86 : decode cX12_init 86 = .ok (.bipush 40, 2) := kd_r kbX12_init ki_44 rfl
theorem dX12_init_88 : decode cX12_init 88 = .ok (.newarray .int, 2) := kd_r kbX12_init ki_3 rfl
theorem dX12_init_90 : decode cX12_init 90 = .ok (.putfield 40, 3) := kd_r kbX12_init ki_319 rfl
theorem dX12_init_93 : decode cX12_init 93 = .ok (.aload_n 0, 1) := kd_r kbX12_init ki_0 rfl
theorem dX12_init_94 : decode cX12_init 94 = .ok (.sipush 246, 3) := kd_r kbX12_init ki_722 rfl
theorem dX12_init_97 : decode cX12_init 97 = .ok (.newarray .int, 2) := kd_r kbX12_init ki_3 rfl
theorem dX12_init_99 : decode cX12_init 99 = .ok (.putfield 43, 3) := kd_r kbX12_init ki_723 rfl
theorem dX12_init_102 : decode cX12_init 102 = .ok (.aload_n 0, 1) := kd_r kbX12_init ki_0 rfl
theorem dX12_init_103 : decode cX12_init 103 = .ok (.bipush 36, 2) := kd_r kbX12_init ki_724 rfl
theorem dX12_init_105 : decode cX12_init 105 = .ok (.newarray .boolean, 2) := kd_r kbX12_init ki_725 rfl
theorem dX12_init_107 : decode cX12_init 107 = .ok (.putfield 46, 3) := kd_r kbX12_init ki_726 rfl
theorem dX12_init_110 : decode cX12_init 110 = .ok (.aload_n 0, 1) := kd_r kbX12_init ki_0 rfl
theorem dX12_init_111 : decode cX12_init 111 = .ok (.bipush 10, 2) := kd_r kbX12_init ki_71 rfl
theorem dX12_init_113 : decode cX12_init 113 = .ok (.newarray .int, 2) := kd_r kbX12_init ki_3 rfl
theorem dX12_init_115 : decode cX12_init 115 = .ok (.putfield 50, 3) := kd_r kbX12_init ki_727 rfl
theorem dX12_init_118 : decode cX12_init 118 = .ok (.aload_n 0, 1) := kd_r kbX12_init ki_0 rfl
theorem dX12_init_119 : decode cX12_init 119 = .ok (.bipush 10, 2) := kd_r kbX12_init ki_71 rfl
theorem dX12_init_121 : decode cX12_init 121 = .ok (.newarray .int, 2) := kd_r kbX12_init ki_3 rfl
theorem dX12_init_123 : decode cX12_init 123 = .ok (.putfield 53, 3) := kd_r kbX12_init ki_728 rfl
theorem dX12_init_126 : decode cX12_init 126 = .ok (.aload_n 0, 1) := kd_r kbX12_init ki_0 rfl
theorem dX12_init_127 : decode cX12_init 127 = .ok (.bipush 10, 2) := kd_r kbX12_init ki_71 rfl
theorem dX12_init_129 : decode cX12_init 129 = .ok (.newarray .int, 2) := kd_r kbX12_init ki_3 rfl
theorem dX12_init_131 : decode cX12_init 131 = .ok (.putfield 56, 3) := kd_r kbX12_init ki_729 rfl
theorem dX12_init_134 : decode cX12_init 134 = .ok (.aload_n 0, 1) := kd_r kbX12_init ki_0 rfl
theorem dX12_init_135 : decode cX12_init 135 = .ok (.bipush 8, 2) := kd_r kbX12_init ki_74 rfl
theorem dX12_init_137 : decode cX12_init 137 = .ok (.newarray .int, 2) := kd_r kbX12_init ki_3 rfl
theorem dX12_init_139 : decode cX12_init 139 = .ok (.putfield 59, 3) := kd_r kbX12_init ki_730 rfl
theorem dX12_init_142 : decode cX12_init 142 = .ok (.aload_n 0, 1) := kd_r kbX12_init ki_0 rfl
theorem dX12_init_143 : decode cX12_init 143 = .ok (.bipush 8, 2) := kd_r kbX12_init ki_74 rfl
theorem dX12_init_145 : decode cX12_init 145 = .ok (.newarray .int, 2) := kd_r kbX12_init ki_3 rfl
theorem dX12_init_147 : decode cX12_init 147 = .ok (.putfield 62, 3) := kd_r kbX12_init ki_731 rfl
theorem dX12_init_150 : decode cX12_init 150 = .ok (.aload_n 0, 1) := kd_r kbX12_init ki_0 rfl
theorem dX12_init_151 : decode cX12_init 151 = .ok (.bipush 8, 2) := kd_r kbX12_init ki_74 rfl
theorem dX12_init_153 : decode cX12_init 153 = .ok (.newarray .int, 2) := kd_r kbX12_init ki_3 rfl
theorem dX12_init_155 : decode cX12_init 155 = .ok (.putfield 65, 3) := kd_r kbX12_init ki_506 rfl
theorem dX12_init_158 : decode cX12_init 158 = .ok (.aload_n 0, 1) := kd_r kbX12_init ki_0 rfl
theorem dX12_init_159 : decode cX12_init 159 = .ok (.bipush 120, 2) := kd_r kbX12_init ki_446 rfl
theorem dX12_init_161 : decode cX12_init 161 = .ok (.newarray .int, 2) := kd_r kbX12_init ki_3 rfl
theorem dX12_init_163 : decode cX12_init 163 = .ok (.putfield 68, 3) := kd_r kbX12_init ki_732 rfl
theorem dX12_init_166 : decode cX12_init 166 = .ok (.aload_n 0, 1) := kd_r kbX12_init ki_0 rfl
theorem dX12_init_167 : decode cX12_init 167 = .ok (.sipush 480, 3) := kd_r kbX12_init ki_733 rfl
theorem dX12_init_170 : decode cX12_init 170 = .ok (.newarray .int, 2) := kd_r kbX12_init ki_3 rfl
theorem dX12_init_172 : decode cX12_init 172 = .ok (.putfield 71, 3) := kd_r kbX12_init ki_508 rfl
theorem dX12_init_175 : decode cX12_init 175 = .ok (.aload_n 0, 1) := kd_r kbX12_init ki_0 rfl
theorem dX12_init_176 : decode cX12_init 176 = .ok (.iconst 4, 1) := kd_r kbX12_init ki_247 rfl
theorem dX12_init_177 : decode cX12_init 177 = .ok (.newarray .int, 2) := kd_r kbX12_init ki_3 rfl
theorem dX12_init_179 : decode cX12_init 179 = .ok (.putfield 74, 3) := kd_r kbX12_init ki_734 rfl
theorem dX12_init_182 : decode cX12_init 182 = .ok (.aload_n 0, 1) := kd_r kbX12_init ki_0 rfl
theorem dX12_init_183 : decode cX12_init 183 = .ok (.bipush 8, 2) := kd_r kbX12_init ki_74 rfl
theorem dX12_init_185 : decode cX12_init 185 = .ok (.newarray .int, 2) := kd_r kbX12_init ki_3 rfl
theorem dX12_init_187 : decode cX12_init 187 = .ok (.putfield 77, 3) := kd_r kbX12_init ki_735 rfl
theorem dX12_init_190 : decode cX12_init 190 = .ok (.aload_n 0, 1) := kd_r kbX12_init ki_0 rfl
theorem dX12_init_191 : decode cX12_init 191 = .ok (.bipush 50, 2) := kd_r kbX12_init ki_285 rfl
theorem dX12_init_193 : decode cX12_init 193 = .ok (.newarray .int, 2) := kd_r kbX12_init ki_3 rfl
theorem dX12_init_195 : decode cX12_init 195 = .ok (.putfield 80, 3) := kd_r kbX12_init ki_736 rfl
theorem dX12_init_198 : decode cX12_init 198 = .ok (.aload_n 0, 1) := kd_r kbX12_init ki_0 rfl
theorem dX12_init_199 : decode cX12_init 199 = .ok (.bipush 24, 2) := kd_r kbX12_init ki_286 rfl
theorem dX12_init_201 : decode cX12_init 201 = .ok (.newarray .int, 2) := kd_r kbX12_init ki_3 rfl
theorem dX12_init_203 : decode cX12_init 203 = .ok (.putfield 83, 3) := kd_r kbX12_init ki_737 rfl
theorem dX12_init_206 : decode cX12_init 206 = .ok (.aload_n 0, 1) := kd_r kbX12_init ki_0 rfl
theorem dX12_init_207 : decode cX12_init 207 = .ok (.bipush 6, 2) := kd_r kbX12_init ki_2 rfl
theorem dX12_init_209 : decode cX12_init 209 = .ok (.newarray .int, 2) := kd_r kbX12_init ki_3 rfl
theorem dX12_init_211 : decode cX12_init 211 = .ok (.putfield 86, 3) := kd_r kbX12_init ki_738 rfl
theorem dX12_init_214 : decode cX12_init 214 = .ok (.aload_n 0, 1) := kd_r kbX12_init ki_0 rfl
theorem dX12_init_215 : decode cX12_init 215 = .ok (.bipush 6, 2) := kd_r kbX12_init ki_2 rfl
theorem dX12_init_217 : decode cX12_init 217 = .ok (.newarray .int, 2) := kd_r kbX12_init ki_3 rfl
theorem dX12_init_219 : decode cX12_init 219 = .ok (.putfield 89, 3) := kd_r kbX12_init ki_739 rfl
theorem dX12_init_222 : decode cX12_init 222 = .ok (.aload_n 0, 1) := kd_r kbX12_init ki_0 rfl
theorem dX12_init_223 : decode cX12_init 223 = .ok (.sipush 360, 3) := kd_r kbX12_init ki_740 rfl
theorem dX12_init_226 : decode cX12_init 226 = .ok (.newarray .long, 2) := kd_r kbX12_init ki_385 rfl
theorem dX12_init_228 : decode cX12_init 228 = .ok (.putfield 92, 3) := kd_r kbX12_init ki_741 rfl
theorem dX12_init_231 : decode cX12_init 231 = .ok (.aload_n 0, 1) := kd_r kbX12_init ki_0 rfl
theorem dX12_init_232 : decode cX12_init 232 = .ok (.bipush 60, 2) := kd_r kbX12_init ki_384 rfl
theorem dX12_init_234 : decode cX12_init 234 = .ok (.newarray .long, 2) := kd_r kbX12_init ki_385 rfl
theorem dX12_init_236 : decode cX12_init 236 = .ok (.putfield 96, 3) := kd_r kbX12_init ki_742 rfl
theorem dX12_init_239 : decode cX12_init 239 = .ok (.iconst 0, 1) := kd_r kbX12_init ki_20 rfl
theorem dX12_init_240 : decode cX12_init 240 = .ok (.istore_n 1, 1) := kd_r kbX12_init ki_60 rfl
theorem dX12_init_241 : decode cX12_init 241 = .ok (.iload_n 1, 1) := kd_r kbX12_init ki_8 rfl
theorem dX12_init_242 : decode cX12_init 242 = .ok (.bipush 6, 2) := kd_r kbX12_init ki_2 rfl
theorem dX12_init_244 : decode cX12_init 244 = .ok (.if_icmp .ge 16, 3) := kd_r kbX12_init ki_268 rfl
theorem dX12_init_247 : decode cX12_init 247 = .ok (.aload_n 0, 1) := kd_r kbX12_init ki_0 rfl
theorem dX12_init_248 : decode cX12_init 248 = .ok (.getfield 86, 3) := kd_r kbX12_init ki_743 rfl
theorem dX12_init_251 : decode cX12_init 251 = .ok (.iload_n 1, 1) := kd_r kbX12_init ki_8 rfl
theorem dX12_init_252 : decode cX12_init 252 = .ok (.iconst (-1), 1) := kd_r kbX12_init ki_99 rfl
theorem dX12_init_253 : decode cX12_init 253 = .ok (.iastore, 1) := kd_r kbX12_init ki_28 rfl
theorem dX12_init_254 : decode cX12_init 254 = .ok (.iinc 1 1, 3) := kd_r kbX12_init ki_62 rfl
theorem dX12_init_257 : decode cX12_init 257 = .ok (.goto (-16), 3) := kd_r kbX12_init ki_386 rfl
theorem dX12_init_260 : decode cX12_init 260 = .ok (.return_, 1) := kd_r kbX12_init ki_5 rfl
theorem dX12_becomes_0 : decode cX12_becomes 0 = .ok (.aload_n 0, 1) := kd_r kbX12_becomes ki_0 rfl
theorem dX12_becomes_1 : decode cX12_becomes 1 = .ok (.getfield 13, 3) := kd_r kbX12_becomes ki_53 rfl
theorem dX12_becomes_4 : decode cX12_becomes 4 = .ok (.iload_n 1, 1) := kd_r kbX12_becomes ki_8 rfl
theorem dX12_becomes_5 : decode cX12_becomes 5 = .ok (.iaload, 1) := kd_r kbX12_becomes ki_14 rfl
theorem dX12_becomes_6 : decode cX12_becomes 6 = .ok (.istore_n 3, 1) := kd_r kbX12_becomes ki_108 rfl
theorem dX12_becomes_7 : decode cX12_becomes 7 = .ok (.iload_n 3, 1) := kd_r kbX12_becomes ki_55 rfl
theorem dX12_becomes_8 : decode cX12_becomes 8 = .ok (.iload_n 2, 1) := kd_r kbX12_becomes ki_11 rfl
theorem dX12_becomes_9 : decode cX12_becomes 9 = .ok (.if_icmp .ne 5, 3) := kd_r kbX12_becomes ki_91 rfl
theorem dX12_becomes_12 : decode cX12_becomes 12 = .ok (.iload_n 3, 1) := kd_r kbX12_becomes ki_55 rfl
theorem dX12_becomes_13 : decode cX12_becomes 13 = .ok (.ireturn, 1) := kd_r kbX12_becomes ki_7 rfl
theorem dX12_becomes_14 : decode cX12_becomes 14 = .ok (.aload_n 0, 1) := kd_r kbX12_becomes ki_0 rfl
theorem dX12_becomes_15 : decode cX12_becomes 15 = .ok (.getfield 99, 3) := kd_r kbX12_becomes ki_744 rfl
theorem dX12_becomes_18 : decode cX12_becomes 18 = .ok (.bipush 40, 2) := kd_r kbX12_becomes ki_44 rfl
theorem dX12_becomes_20 : decode cX12_becomes 20 = .ok (.if_icmp .ne 77, 3) := kd_r kbX12_becomes ki_745 rfl
theorem dX12_becomes_23 : decode cX12_becomes 23 = .ok (.iconst 1, 1) := kd_r kbX12_becomes ki_16 rfl
theorem dX12_becomes_24 : decode cX12_becomes 24 = .ok (.istore 4, 2) := kd_r kbX12_becomes ki_129 rfl
theorem dX12_becomes_26 : decode cX12_becomes 26 = .ok (.iload 4, 2) := kd_r kbX12_becomes ki_57 rfl
theorem dX12_becomes_28 : decode cX12_becomes 28 = .ok (.bipush 40, 2) := kd_r kbX12_becomes ki_44 rfl
theorem dX12_becomes_30 : decode cX12_becomes 30 = .ok (.if_icmp .ge 57, 3) := kd_r kbX12_becomes ki_746 rfl
theorem dX12_becomes_33 : decode cX12_becomes 33 = .ok (.aload_n 0, 1) := kd_r kbX12_becomes ki_0 rfl
theorem dX12_becomes_34 : decode cX12_becomes 34 = .ok (.getfield 16, 3) := kd_r kbX12_becomes ki_54 rfl
theorem dX12_becomes_37 : decode cX12_becomes 37 = .ok (.iload 4, 2) := kd_r kbX12_becomes ki_57 rfl
theorem dX12_becomes_39 : decode cX12_becomes 39 = .ok (.iconst 1, 1) := kd_r kbX12_becomes ki_16 rfl
theorem dX12_becomes_40 : decode cX12_becomes 40 = .ok (.isub, 1) := kd_r kbX12_becomes ki_50 rfl
theorem dX12_becomes_41 : decode cX12_becomes 41 = .ok (.aload_n 0, 1) := kd_r kbX12_becomes ki_0 rfl
theorem dX12_becomes_42 : decode cX12_becomes 42 = .ok (.getfield 16, 3) := kd_r kbX12_becomes ki_54 rfl
theorem dX12_becomes_45 : decode cX12_becomes 45 = .ok (.iload 4, 2) := kd_r kbX12_becomes ki_57 rfl
theorem dX12_becomes_47 : decode cX12_becomes 47 = .ok (.iaload, 1) := kd_r kbX12_becomes ki_14 rfl
theorem dX12_becomes_48 : decode cX12_becomes 48 = .ok (.iastore, 1) := kd_r kbX12_becomes ki_28 rfl
theorem dX12_becomes_49 : decode cX12_becomes 49 = .ok (.aload_n 0, 1) := kd_r kbX12_becomes ki_0 rfl
theorem dX12_becomes_50 : decode cX12_becomes 50 = .ok (.getfield 19, 3) := kd_r kbX12_becomes ki_56 rfl
theorem dX12_becomes_53 : decode cX12_becomes 53 = .ok (.iload 4, 2) := kd_r kbX12_becomes ki_57 rfl
theorem dX12_becomes_55 : decode cX12_becomes 55 = .ok (.iconst 1, 1) := kd_r kbX12_becomes ki_16 rfl
theorem dX12_becomes_56 : decode cX12_becomes 56 = .ok (.isub, 1) := kd_r kbX12_becomes ki_50 rfl
theorem dX12_becomes_57 : decode cX12_becomes 57 = .ok (.aload_n 0, 1) := kd_r kbX12_becomes ki_0 rfl
theorem dX12_becomes_58 : decode cX12_becomes 58 = .ok (.getfield 19, 3) := kd_r kbX12_becomes ki_56 rfl
theorem dX12_becomes_61 : decode cX12_becomes 61 = .ok (.iload 4, 2) := kd_r kbX12_becomes ki_57 rfl
theorem dX12_becomes_63 : decode cX12_becomes 63 = .ok (.iaload, 1) := kd_r kbX12_becomes ki_14 rfl
theorem dX12_becomes_64 : decode cX12_becomes 64 = .ok (.iastore, 1) := kd_r kbX12_becomes ki_28 rfl
theorem dX12_becomes_65 : decode cX12_becomes 65 = .ok (.aload_n 0, 1) := kd_r kbX12_becomes ki_0 rfl
theorem dX12_becomes_66 : decode cX12_becomes 66 = .ok (.getfield 22, 3) := kd_r kbX12_becomes ki_48 rfl
theorem dX12_becomes_69 : decode cX12_becomes 69 = .ok (.iload 4, 2) := kd_r kbX12_becomes ki_57 rfl
theorem dX12_becomes_71 : decode cX12_becomes 71 = .ok (.iconst 1, 1) := kd_r kbX12_becomes ki_16 rfl
theorem dX12_becomes_72 : decode cX12_becomes 72 = .ok (.isub, 1) := kd_r kbX12_becomes ki_50 rfl
theorem dX12_becomes_73 : decode cX12_becomes 73 = .ok (.aload_n 0, 1) := kd_r kbX12_becomes ki_0 rfl
theorem dX12_becomes_74 : decode cX12_becomes 74 = .ok (.getfield 22, 3) := kd_r kbX12_becomes ki_48 rfl
theorem dX12_becomes_77 : decode cX12_becomes 77 = .ok (.iload 4, 2) := kd_r kbX12_becomes ki_57 rfl
theorem dX12_becomes_79 : decode cX12_becomes 79 = .ok (.iaload, 1) := kd_r kbX12_becomes ki_14 rfl
theorem dX12_becomes_80 : decode cX12_becomes 80 = .ok (.iastore, 1) := kd_r kbX12_becomes ki_28 rfl
theorem dX12_becomes_81 : decode cX12_becomes 81 = .ok (.iinc 4 1, 3) := kd_r kbX12_becomes ki_144 rfl
theorem dX12_becomes_84 : decode cX12_becomes 84 = .ok (.goto (-58), 3) := kd_r kbX12_becomes ki_605 rfl
theorem dX12_becomes_87 : decode cX12_becomes 87 = .ok (.aload_n 0, 1) := kd_r kbX12_becomes ki_0 rfl
theorem dX12_becomes_88 : decode cX12_becomes 88 = .ok (.dup, 1) := kd_r kbX12_becomes ki_29 rfl
theorem dX12_becomes_89 : decode cX12_becomes 89 = .ok (.getfield 99, 3) := kd_r kbX12_becomes ki_744 rfl
theorem dX12_becomes_92 : decode cX12_becomes 92 = .ok (.iconst 1, 1) := kd_r kbX12_becomes ki_16 rfl
theorem dX12_becomes_93 : decode cX12_becomes 93 = .ok (.isub, 1) := kd_r kbX12_becomes ki_50 rfl
theorem dX12_becomes_94 : decode cX12_becomes 94 = .ok (.putfield 99, 3) := kd_r kbX12_becomes ki_747 rfl
theorem dX12_becomes_97 : decode cX12_becomes 97 = .ok (.aload_n 0, 1) := kd_r kbX12_becomes ki_0 rfl
theorem dX12_becomes_98 : decode cX12_becomes 98 = .ok (.getfield 16, 3) := kd_r kbX12_becomes ki_54 rfl
theorem dX12_becomes_101 : decode cX12_becomes 101 = .ok (.aload_n 0, 1) := kd_r kbX12_becomes ki_0 rfl
theorem dX12_becomes_102 : decode cX12_becomes 102 = .ok (.getfield 99, 3) := kd_r kbX12_becomes ki_744 rfl
theorem dX12_becomes_105 : decode cX12_becomes 105 = .ok (.iload_n 1, 1) := kd_r kbX12_becomes ki_8 rfl
theorem dX12_becomes_106 : decode cX12_becomes 106 = .ok (.iastore, 1) := kd_r kbX12_becomes ki_28 rfl
theorem dX12_becomes_107 : decode cX12_becomes 107 = .ok (.aload_n 0, 1) := kd_r kbX12_becomes ki_0 rfl
theorem dX12_becomes_108 : decode cX12_becomes 108 = .ok (.getfield 19, 3) := kd_r kbX12_becomes ki_56 rfl
