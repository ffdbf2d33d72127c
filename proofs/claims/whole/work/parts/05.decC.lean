set_option maxRecDepth 20000 in
theorem ggX4_init_X1_init : GoodIn wsX4_init wsX1_init := goodIn_r _ [22, 23, 2, 3, 24, 25, 54, 55] (by decide +kernel) (by decide +kernel)
set_option maxRecDepth 20000 in
theorem gX4_init_X1_init : GoodIn wsX4_init (wsX1_init) := ggX4_init_X1_init
set_option maxRecDepth 20000 in
theorem ggX4_init_X3_init : GoodIn wsX4_init wsX3_init := goodIn_r _ [28, 29, 2, 3, 24, 30, 31, 32, 56, 57, 58, 59] (by decide +kernel) (by decide +kernel)
set_option maxRecDepth 20000 in
theorem gX4_init_X3_init : GoodIn wsX4_init (wsX3_init) := ggX4_init_X3_init
set_option maxRecDepth 20000 in
theorem ggX4_init_X0_init : GoodIn wsX4_init wsX0_init := goodIn_r _ [35, 36, 2, 3, 24, 37, 38, 39, 60, 61, 62, 63] (by decide +kernel) (by decide +kernel)
set_option maxRecDepth 20000 in
theorem gX4_init_X0_init : GoodIn wsX4_init (wsX0_init) := ggX4_init_X0_init
set_option maxRecDepth 20000 in
theorem ggX4_init_X2_init : GoodIn wsX4_init wsX2_init := goodIn_r _ [42, 43, 2, 3, 24, 44, 45, 46, 64, 65, 66, 67, 68, 69, 70, 71, 72, 73] (by decide +kernel) (by decide +kernel)
set_option maxRecDepth 20000 in
theorem gX4_init_X2_init : GoodIn wsX4_init (wsX2_init) := ggX4_init_X2_init
theorem dX4_init_0 : decode cX4_init 0 = .ok (.aload_n 0, 1) := by decide +kernel
theorem dX4_init_1 : decode cX4_init 1 = .ok (.invokespecial 1, 3) := by decide +kernel
theorem dX4_init_4 : decode cX4_init 4 = .ok (.aload_n 0, 1) := by decide +kernel
theorem dX4_init_5 : decode cX4_init 5 = .ok (.bipush 6, 2) := by decide +kernel
theorem dX4_init_7 : decode cX4_init 7 = .ok (.anewarray 9, 3) := by decide +kernel
theorem dX4_init_10 : decode cX4_init 10 = .ok (.putfield 11, 3) := by decide +kernel
theorem dX4_init_13 : decode cX4_init 13 = .ok (.iconst 0, 1) := by decide +kernel
theorem dX4_init_14 : decode cX4_init 14 = .ok (.istore_n 1, 1) := by decide +kernel
theorem dX4_init_15 : decode cX4_init 15 = .ok (.iload_n 1, 1) := by decide +kernel
theorem dX4_init_16 : decode cX4_init 16 = .ok (.bipush 6, 2) := by decide +kernel
theorem dX4_init_18 : decode cX4_init 18 = .ok (.if_icmp .ge 22, 3) := by decide +kernel
theorem dX4_init_21 : decode cX4_init 21 = .ok (.aload_n 0, 1) := by decide +kernel
theorem dX4_init_22 : decode cX4_init 22 = .ok (.getfield 11, 3) := by decide +kernel
theorem dX4_init_25 : decode cX4_init 25 = .ok (.iload_n 1, 1) := by decide +kernel
theorem dX4_init_26 : decode cX4_init 26 = .ok (.new 9, 3) := by decide +kernel
theorem dX4_init_29 : decode cX4_init 29 = .ok (.dup, 1) := by decide +kernel
theorem dX4_init_30 : decode cX4_init 30 = .ok (.invokespecial 15, 3) := by decide +kernel
theorem dX4_init_33 : decode cX4_init 33 = .ok (.aastore, 1) := by decide +kernel
theorem dX4_init_34 : decode cX4_init 34 = .ok (.iinc 1 1, 3) := by decide +kernel
theorem dX4_init_37 : decode cX4_init 37 = .ok (.goto (-22), 3) := by decide +kernel
theorem dX4_init_40 : decode cX4_init 40 = .ok (.aload_n 0, 1) := by decide +kernel
theorem dX4_init_41 : decode cX4_init 41 = .ok (.new 16, 3) := by decide +kernel
theorem dX4_init_44 : decode cX4_init 44 = .ok (.dup, 1) := by decide +kernel
theorem dX4_init_45 : decode cX4_init 45 = .ok (.invokespecial 18, 3) := by decide +kernel
theorem dX4_init_48 : decode cX4_init 48 = .ok (.putfield 19, 3) := by decide +kernel
theorem dX4_init_51 : decode cX4_init 51 = .ok (.aload_n 0, 1) := by decide +kernel
theorem dX4_init_52 : decode cX4_init 52 = .ok (.new 23, 3) := by decide +kernel
theorem dX4_init_55 : decode cX4_init 55 = .ok (.dup, 1) := by decide +kernel
theorem dX4_init_56 : decode cX4_init 56 = .ok (.invokespecial 25, 3) := by decide +kernel
theorem dX4_init_59 : decode cX4_init 59 = .ok (.putfield 26, 3) := by decide +kernel
theorem dX4_init_62 : decode cX4_init 62 = .ok (.aload_n 0, 1) := by decide +kernel
theorem dX4_init_63 : decode cX4_init 63 = .ok (.new 30, 3) := by decide +kernel
theorem dX4_init_66 : decode cX4_init 66 = .ok (.dup, 1) := by decide +kernel
theorem dX4_init_67 : decode cX4_init 67 = .ok (.invokespecial 32, 3) := by decide +kernel
theorem dX4_init_70 : decode cX4_init 70 = .ok (.putfield 33, 3) := by decide +kernel
theorem dX4_init_73 : decode cX4_init 73 = .ok (.return_, 1) := by decide +kernel
set_option maxRecDepth 20000 in
theorem ggX4_act_X4_isPlan : GoodIn wsX4_act wsX4_isPlan := goodIn_r _ [6] (by decide +kernel) (by decide +kernel)
set_option maxRecDepth 20000 in
theorem gX4_act_X4_isPlan : GoodIn wsX4_act (va_wsS RX4 37 yX4_isPlan wsX4_isPlan) := goodIn_app (goodIn_of _ (by decide +kernel)) ggX4_act_X4_isPlan
set_option maxRecDepth 20000 in
theorem ggX4_act_X4_isDigit : GoodIn wsX4_act wsX4_isDigit := goodIn_r _ [9] (by decide +kernel) (by decide +kernel)
set_option maxRecDepth 20000 in
theorem gX4_act_X4_isDigit : GoodIn wsX4_act (va_wsS RX4 45 yX4_isDigit wsX4_isDigit) := goodIn_app (goodIn_of _ (by decide +kernel)) ggX4_act_X4_isDigit
set_option maxRecDepth 20000 in
theorem ggX4_act_X1_add : GoodIn wsX4_act wsX1_add := goodIn_r _ [14, 15, 16, 24, 25] (by decide +kernel) (by decide +kernel)
set_option maxRecDepth 20000 in
theorem gX4_act_X1_add : GoodIn wsX4_act (wsV RX4 48 RX1 yX1_add wsX1_add) := goodIn_app (goodIn_of _ (by decide +kernel)) ggX4_act_X1_add
theorem dX4_act_0 : decode cX4_act 0 = .ok (.iload_n 1, 1) := by decide +kernel
theorem dX4_act_1 : decode cX4_act 1 = .ok (.invokestatic 37, 3) := by decide +kernel
theorem dX4_act_4 : decode cX4_act 4 = .ok (.ifCond .eq 13, 3) := by decide +kernel
theorem dX4_act_7 : decode cX4_act 7 = .ok (.iload_n 2, 1) := by decide +kernel
theorem dX4_act_8 : decode cX4_act 8 = .ok (.ifCond .lt 9, 3) := by decide +kernel
theorem dX4_act_11 : decode cX4_act 11 = .ok (.iload_n 2, 1) := by decide +kernel
theorem dX4_act_12 : decode cX4_act 12 = .ok (.bipush 9, 2) := by decide +kernel
theorem dX4_act_14 : decode cX4_act 14 = .ok (.if_icmp .le 5, 3) := by decide +kernel
theorem dX4_act_17 : decode cX4_act 17 = .ok (.iconst (-1), 1) := by decide +kernel
theorem dX4_act_18 : decode cX4_act 18 = .ok (.ireturn, 1) := by decide +kernel
theorem dX4_act_19 : decode cX4_act 19 = .ok (.getstatic 41, 3) := by decide +kernel
theorem dX4_act_22 : decode cX4_act 22 = .ok (.iload_n 2, 1) := by decide +kernel
theorem dX4_act_23 : decode cX4_act 23 = .ok (.iaload, 1) := by decide +kernel
theorem dX4_act_24 : decode cX4_act 24 = .ok (.ifCond .le 7, 3) := by decide +kernel
theorem dX4_act_27 : decode cX4_act 27 = .ok (.iload_n 3, 1) := by decide +kernel
theorem dX4_act_28 : decode cX4_act 28 = .ok (.goto 4, 3) := by decide +kernel
theorem dX4_act_31 : decode cX4_act 31 = .ok (.iconst 0, 1) := by decide +kernel
theorem dX4_act_32 : decode cX4_act 32 = .ok (.istore 6, 2) := by decide +kernel
theorem dX4_act_34 : decode cX4_act 34 = .ok (.getstatic 41, 3) := by decide +kernel
theorem dX4_act_37 : decode cX4_act 37 = .ok (.iload_n 2, 1) := by decide +kernel
theorem dX4_act_38 : decode cX4_act 38 = .ok (.iaload, 1) := by decide +kernel
theorem dX4_act_39 : decode cX4_act 39 = .ok (.iconst 1, 1) := by decide +kernel
theorem dX4_act_40 : decode cX4_act 40 = .ok (.if_icmp .le 8, 3) := by decide +kernel
theorem dX4_act_43 : decode cX4_act 43 = .ok (.iload 4, 2) := by decide +kernel
theorem dX4_act_45 : decode cX4_act 45 = .ok (.goto 4, 3) := by decide +kernel
theorem dX4_act_48 : decode cX4_act 48 = .ok (.iconst 0, 1) := by decide +kernel
theorem dX4_act_49 : decode cX4_act 49 = .ok (.istore 7, 2) := by decide +kernel
theorem dX4_act_51 : decode cX4_act 51 = .ok (.getstatic 41, 3) := by decide +kernel
theorem dX4_act_54 : decode cX4_act 54 = .ok (.iload_n 2, 1) := by decide +kernel
theorem dX4_act_55 : decode cX4_act 55 = .ok (.iaload, 1) := by decide +kernel
theorem dX4_act_56 : decode cX4_act 56 = .ok (.iconst 2, 1) := by decide +kernel
theorem dX4_act_57 : decode cX4_act 57 = .ok (.if_icmp .le 8, 3) := by decide +kernel
theorem dX4_act_60 : decode cX4_act 60 = .ok (.iload 5, 2) := by decide +kernel
theorem dX4_act_62 : decode cX4_act 62 = .ok (.goto 4, 3) := by decide +kernel
theorem dX4_act_65 : decode cX4_act 65 = .ok (.iconst 0, 1) := by decide +kernel
theorem dX4_act_66 : decode cX4_act 66 = .ok (.istore 8, 2) := by decide +kernel
theorem dX4_act_68 : decode cX4_act 68 = .ok (.iload 6, 2) := by decide +kernel
theorem dX4_act_70 : decode cX4_act 70 = .ok (.invokestatic 45, 3) := by decide +kernel
theorem dX4_act_73 : decode cX4_act 73 = .ok (.ifCond .eq 19, 3) := by decide +kernel
theorem dX4_act_76 : decode cX4_act 76 = .ok (.iload 7, 2) := by decide +kernel
theorem dX4_act_78 : decode cX4_act 78 = .ok (.invokestatic 45, 3) := by decide +kernel
theorem dX4_act_81 : decode cX4_act 81 = .ok (.ifCond .eq 11, 3) := by decide +kernel
theorem dX4_act_84 : decode cX4_act 84 = .ok (.iload 8, 2) := by decide +kernel
theorem dX4_act_86 : decode cX4_act 86 = .ok (.invokestatic 45, 3) := by decide +kernel
theorem dX4_act_89 : decode cX4_act 89 = .ok (.ifCond .ne 5, 3) := by decide +kernel
theorem dX4_act_92 : decode cX4_act 92 = .ok (.iconst (-1), 1) := by decide +kernel
theorem dX4_act_93 : decode cX4_act 93 = .ok (.ireturn, 1) := by decide +kernel
theorem dX4_act_94 : decode cX4_act 94 = .ok (.iload_n 2, 1) := by decide +kernel
theorem dX4_act_95 : decode cX4_act 95 = .ok (.bipush 7, 2) := by decide +kernel
theorem dX4_act_97 : decode cX4_act 97 = .ok (.if_icmp .ne 12, 3) := by decide +kernel
theorem dX4_act_100 : decode cX4_act 100 = .ok (.iload 6, 2) := by decide +kernel
theorem dX4_act_102 : decode cX4_act 102 = .ok (.bipush 7, 2) := by decide +kernel
theorem dX4_act_104 : decode cX4_act 104 = .ok (.if_icmp .ge 5, 3) := by decide +kernel
theorem dX4_act_107 : decode cX4_act 107 = .ok (.iconst (-1), 1) := by decide +kernel
theorem dX4_act_108 : decode cX4_act 108 = .ok (.ireturn, 1) := by decide +kernel
theorem dX4_act_109 : decode cX4_act 109 = .ok (.aload_n 0, 1) := by decide +kernel
theorem dX4_act_110 : decode cX4_act 110 = .ok (.getfield 11, 3) := by decide +kernel
theorem dX4_act_113 : decode cX4_act 113 = .ok (.iload_n 1, 1) := by decide +kernel
theorem dX4_act_114 : decode cX4_act 114 = .ok (.aaload, 1) := by decide +kernel
theorem dX4_act_115 : decode cX4_act 115 = .ok (.iload_n 2, 1) := by decide +kernel
theorem dX4_act_116 : decode cX4_act 116 = .ok (.iload 6, 2) := by decide +kernel
theorem dX4_act_118 : decode cX4_act 118 = .ok (.iload 7, 2) := by decide +kernel
theorem dX4_act_120 : decode cX4_act 120 = .ok (.iload 8, 2) := by decide +kernel
theorem dX4_act_122 : decode cX4_act 122 = .ok (.invokevirtual 48, 3) := by decide +kernel
theorem dX4_act_125 : decode cX4_act 125 = .ok (.ireturn, 1) := by decide +kernel
set_option maxRecDepth 20000 in
theorem ggX4_clear_X4_isPlan : GoodIn wsX4_clear wsX4_isPlan := goodIn_r _ [5] (by decide +kernel) (by decide +kernel)
set_option maxRecDepth 20000 in
theorem gX4_clear_X4_isPlan : GoodIn wsX4_clear (va_wsS RX4 37 yX4_isPlan wsX4_isPlan) := goodIn_app (goodIn_of _ (by decide +kernel)) ggX4_clear_X4_isPlan
set_option maxRecDepth 20000 in
theorem ggX4_clear_X1_empty : GoodIn wsX4_clear wsX1_empty := goodIn_r _ [10, 11, 19, 20] (by decide +kernel) (by decide +kernel)
set_option maxRecDepth 20000 in
theorem gX4_clear_X1_empty : GoodIn wsX4_clear (wsV RX4 52 RX1 yX1_empty wsX1_empty) := goodIn_app (goodIn_of _ (by decide +kernel)) ggX4_clear_X1_empty
theorem dX4_clear_0 : decode cX4_clear 0 = .ok (.iload_n 1, 1) := by decide +kernel
theorem dX4_clear_1 : decode cX4_clear 1 = .ok (.invokestatic 37, 3) := by decide +kernel
theorem dX4_clear_4 : decode cX4_clear 4 = .ok (.ifCond .eq 15, 3) := by decide +kernel
theorem dX4_clear_7 : decode cX4_clear 7 = .ok (.aload_n 0, 1) := by decide +kernel
theorem dX4_clear_8 : decode cX4_clear 8 = .ok (.getfield 11, 3) := by decide +kernel
theorem dX4_clear_11 : decode cX4_clear 11 = .ok (.iload_n 1, 1) := by decide +kernel
theorem dX4_clear_12 : decode cX4_clear 12 = .ok (.aaload, 1) := by decide +kernel
theorem dX4_clear_13 : decode cX4_clear 13 = .ok (.invokevirtual 52, 3) := by decide +kernel
theorem dX4_clear_16 : decode cX4_clear 16 = .ok (.goto 4, 3) := by decide +kernel
theorem dX4_clear_19 : decode cX4_clear 19 = .ok (.iconst (-1), 1) := by decide +kernel
theorem dX4_clear_20 : decode cX4_clear 20 = .ok (.ireturn, 1) := by decide +kernel
set_option maxRecDepth 20000 in
theorem ggX4_closed_X4_isPlan : GoodIn wsX4_closed wsX4_isPlan := goodIn_r _ [5] (by decide +kernel) (by decide +kernel)
set_option maxRecDepth 20000 in
theorem gX4_closed_X4_isPlan : GoodIn wsX4_closed (va_wsS RX4 37 yX4_isPlan wsX4_isPlan) := goodIn_app (goodIn_of _ (by decide +kernel)) ggX4_closed_X4_isPlan
set_option maxRecDepth 20000 in
theorem ggX4_closed_X1_isClosed : GoodIn wsX4_closed wsX1_isClosed := goodIn_r _ [10, 11, 12, 13, 14, 9, 15, 16, 17, 18, 19, 20, 28, 29] (by decide +kernel) (by decide +kernel)
set_option maxRecDepth 20000 in
theorem gX4_closed_X1_isClosed : GoodIn wsX4_closed (wsV RX4 56 RX1 yX1_isClosed wsX1_isClosed) := goodIn_app (goodIn_of _ (by decide +kernel)) ggX4_closed_X1_isClosed
theorem dX4_closed_0 : decode cX4_closed 0 = .ok (.iload_n 1, 1) := by decide +kernel
theorem dX4_closed_1 : decode cX4_closed 1 = .ok (.invokestatic 37, 3) := by decide +kernel
theorem dX4_closed_4 : decode cX4_closed 4 = .ok (.ifCond .ne 5, 3) := by decide +kernel
theorem dX4_closed_7 : decode cX4_closed 7 = .ok (.iconst (-1), 1) := by decide +kernel
theorem dX4_closed_8 : decode cX4_closed 8 = .ok (.ireturn, 1) := by decide +kernel
theorem dX4_closed_9 : decode cX4_closed 9 = .ok (.aload_n 0, 1) := by decide +kernel
theorem dX4_closed_10 : decode cX4_closed 10 = .ok (.getfield 11, 3) := by decide +kernel
theorem dX4_closed_13 : decode cX4_closed 13 = .ok (.iload_n 1, 1) := by decide +kernel
theorem dX4_closed_14 : decode cX4_closed 14 = .ok (.aaload, 1) := by decide +kernel
theorem dX4_closed_15 : decode cX4_closed 15 = .ok (.invokevirtual 56, 3) := by decide +kernel
theorem dX4_closed_18 : decode cX4_closed 18 = .ok (.ifCond .eq 7, 3) := by decide +kernel
theorem dX4_closed_21 : decode cX4_closed 21 = .ok (.iconst 1, 1) := by decide +kernel
theorem dX4_closed_22 : decode cX4_closed 22 = .ok (.goto 4, 3) := by decide +kernel
theorem dX4_closed_25 : decode cX4_closed 25 = .ok (.iconst 0, 1) := by decide +kernel
theorem dX4_closed_26 : decode cX4_closed 26 = .ok (.ireturn, 1) := by decide +kernel
set_option maxRecDepth 20000 in
theorem ggX4_shelf_X4_isShelf : GoodIn wsX4_shelf wsX4_isShelf := goodIn_r _ [5] (by decide +kernel) (by decide +kernel)
set_option maxRecDepth 20000 in
theorem gX4_shelf_X4_isShelf : GoodIn wsX4_shelf (va_wsS RX4 60 yX4_isShelf wsX4_isShelf) := goodIn_app (goodIn_of _ (by decide +kernel)) ggX4_shelf_X4_isShelf
set_option maxRecDepth 20000 in
theorem ggX4_shelf_X3_replace : GoodIn wsX4_shelf wsX3_replace := goodIn_r _ [10, 11, 12, 3, 4, 5, 13, 14, 15, 9, 16, 24, 25, 26, 27] (by decide +kernel) (by decide +kernel)
set_option maxRecDepth 20000 in
theorem gX4_shelf_X3_replace : GoodIn wsX4_shelf (wsV RX4 63 RX3 yX3_replace wsX3_replace) := goodIn_app (goodIn_of _ (by decide +kernel)) ggX4_shelf_X3_replace
theorem dX4_shelf_0 : decode cX4_shelf 0 = .ok (.iload_n 1, 1) := by decide +kernel
theorem dX4_shelf_1 : decode cX4_shelf 1 = .ok (.invokestatic 60, 3) := by decide +kernel
theorem dX4_shelf_4 : decode cX4_shelf 4 = .ok (.ifCond .eq 15, 3) := by decide +kernel
theorem dX4_shelf_7 : decode cX4_shelf 7 = .ok (.iload_n 2, 1) := by decide +kernel
theorem dX4_shelf_8 : decode cX4_shelf 8 = .ok (.iconst (-1), 1) := by decide +kernel
theorem dX4_shelf_9 : decode cX4_shelf 9 = .ok (.if_icmp .lt 10, 3) := by decide +kernel
theorem dX4_shelf_12 : decode cX4_shelf 12 = .ok (.iload_n 2, 1) := by decide +kernel
theorem dX4_shelf_13 : decode cX4_shelf 13 = .ok (.sipush 1000, 3) := by decide +kernel
theorem dX4_shelf_16 : decode cX4_shelf 16 = .ok (.if_icmp .le 5, 3) := by decide +kernel
theorem dX4_shelf_19 : decode cX4_shelf 19 = .ok (.iconst (-1), 1) := by decide +kernel
theorem dX4_shelf_20 : decode cX4_shelf 20 = .ok (.ireturn, 1) := by decide +kernel
theorem dX4_shelf_21 : decode cX4_shelf 21 = .ok (.aload_n 0, 1) := by decide +kernel
theorem dX4_shelf_22 : decode cX4_shelf 22 = .ok (.getfield 19, 3) := by decide +kernel
theorem dX4_shelf_25 : decode cX4_shelf 25 = .ok (.iload_n 1, 1) := by decide +kernel
theorem dX4_shelf_26 : decode cX4_shelf 26 = .ok (.iload_n 2, 1) := by decide +kernel
theorem dX4_shelf_27 : decode cX4_shelf 27 = .ok (.invokevirtual 63, 3) := by decide +kernel
theorem dX4_shelf_30 : decode cX4_shelf 30 = .ok (.ireturn, 1) := by decide +kernel
set_option maxRecDepth 20000 in
theorem ggX4_run_X4_isPlan : GoodIn wsX4_run wsX4_isPlan := goodIn_r _ [9] (by decide +kernel) (by decide +kernel)
set_option maxRecDepth 20000 in
theorem gX4_run_X4_isPlan : GoodIn wsX4_run (va_wsS RX4 37 yX4_isPlan wsX4_isPlan) := goodIn_app (goodIn_of _ (by decide +kernel)) ggX4_run_X4_isPlan
set_option maxRecDepth 20000 in
theorem ggX4_run_X1_isClosed : GoodIn wsX4_run wsX1_isClosed := goodIn_r _ [14, 15, 16, 17, 18, 13, 19, 20, 21, 22, 23, 24, 228, 229] (by decide +kernel) (by decide +kernel)
set_option maxRecDepth 20000 in
theorem gX4_run_X1_isClosed : GoodIn wsX4_run (wsV RX4 56 RX1 yX1_isClosed wsX1_isClosed) := goodIn_app (goodIn_of _ (by decide +kernel)) ggX4_run_X1_isClosed
set_option maxRecDepth 20000 in
theorem ggX4_run_X2_reset : GoodIn wsX4_run wsX2_reset := goodIn_r _ [29, 30, 31, 32, 33, 34, 35, 36, 37, 38, 39, 28, 40, 41, 42, 43, 230, 231, 232, 233, 234, 235, 236, 237, 238, 239] (by decide +kernel) (by decide +kernel)
set_option maxRecDepth 20000 in
theorem gX4_run_X2_reset : GoodIn wsX4_run (wsV RX4 67 RX2 yX2_reset wsX2_reset) := goodIn_app (goodIn_of _ (by decide +kernel)) ggX4_run_X2_reset
set_option maxRecDepth 20000 in
theorem ggX4_run_X4_doActs : GoodIn wsX4_run wsX4_doActs := goodIn_r _ [47, 3, 4, 1, 5, 2, 6, 7, 8, 9, 48, 49, 50, 13, 51, 15, 52, 53, 54, 55, 56, 57, 58, 59, 60, 61, 62, 63, 64, 65, 66, 67, 68, 69, 70, 71, 72, 73, 74, 75, 28, 76, 32, 77, 78, 79, 80, 81, 38, 39, 40, 41, 42, 43, 82, 83, 84, 85, 86, 87, 88, 89, 90, 91, 92, 93, 94, 95, 96, 97, 98, 99, 100, 101, 102, 103, 104, 105, 106, 107, 108, 109, 110, 111, 112, 113, 114, 115, 34, 116, 117, 118, 119, 120, 121, 122, 123, 124, 125, 126, 127, 128, 30, 31, 129, 130, 131, 132, 133, 134, 135, 136, 137, 138, 139, 140, 141, 142, 143, 144, 145, 146, 147, 148, 24, 149, 150, 151, 152, 153, 21, 22, 23, 154, 155, 156, 157, 158, 159, 160, 161, 162, 163, 164, 165, 166, 167, 168, 169, 170, 33, 35, 171, 172, 173, 174, 175, 176, 177, 178, 179, 180, 181, 182, 16, 17, 18, 19, 20, 183, 184, 185, 186, 187, 188, 189, 190, 191, 192, 193, 194, 195, 196, 197, 198, 199, 200, 201, 202, 203, 204, 205, 206, 207, 208, 209, 210, 211, 212, 213, 214, 215, 216, 10, 11, 12, 14, 217, 218, 219, 220, 36, 221, 222, 223, 224, 225, 226, 227, 228, 229, 240, 241, 242, 243, 230, 231, 232, 233, 234, 235, 236, 237, 238, 239, 244, 245, 246, 247] (by decide +kernel) (by decide +kernel)
set_option maxRecDepth 20000 in
theorem gX4_run_X4_doActs : GoodIn wsX4_run (wsV RX4 80 RX4 yX4_doActs wsX4_doActs) := goodIn_app (goodIn_of _ (by decide +kernel)) ggX4_run_X4_doActs
theorem dX4_run_0 : decode cX4_run 0 = .ok (.iload_n 1, 1) := by decide +kernel
theorem dX4_run_1 : decode cX4_run 1 = .ok (.invokestatic 37, 3) := by decide +kernel
theorem dX4_run_4 : decode cX4_run 4 = .ok (.ifCond .eq 13, 3) := by decide +kernel
theorem dX4_run_7 : decode cX4_run 7 = .ok (.iload_n 2, 1) := by decide +kernel
theorem dX4_run_8 : decode cX4_run 8 = .ok (.ifCond .lt 9, 3) := by decide +kernel
theorem dX4_run_11 : decode cX4_run 11 = .ok (.iload_n 2, 1) := by decide +kernel
theorem dX4_run_12 : decode cX4_run 12 = .ok (.bipush 64, 2) := by decide +kernel
theorem dX4_run_14 : decode cX4_run 14 = .ok (.if_icmp .le 5, 3) := by decide +kernel
theorem dX4_run_17 : decode cX4_run 17 = .ok (.iconst (-1), 1) := by decide +kernel
theorem dX4_run_18 : decode cX4_run 18 = .ok (.ireturn, 1) := by decide +kernel
theorem dX4_run_19 : decode cX4_run 19 = .ok (.aload_n 0, 1) := by decide +kernel
theorem dX4_run_20 : decode cX4_run 20 = .ok (.getfield 11, 3) := by decide +kernel
theorem dX4_run_23 : decode cX4_run 23 = .ok (.iload_n 1, 1) := by decide +kernel
theorem dX4_run_24 : decode cX4_run 24 = .ok (.aaload, 1) := by decide +kernel
theorem dX4_run_25 : decode cX4_run 25 = .ok (.invokevirtual 56, 3) := by decide +kernel
theorem dX4_run_28 : decode cX4_run 28 = .ok (.ifCond .ne 6, 3) := by decide +kernel
theorem dX4_run_31 : decode cX4_run 31 = .ok (.bipush (-3), 2) := by decide +kernel
theorem dX4_run_33 : decode cX4_run 33 = .ok (.ireturn, 1) := by decide +kernel
theorem dX4_run_34 : decode cX4_run 34 = .ok (.aload_n 0, 1) := by decide +kernel
theorem dX4_run_35 : decode cX4_run 35 = .ok (.getfield 33, 3) := by decide +kernel
theorem dX4_run_38 : decode cX4_run 38 = .ok (.invokevirtual 67, 3) := by decide +kernel
theorem dX4_run_41 : decode cX4_run 41 = .ok (.aload_n 0, 1) := by decide +kernel
theorem dX4_run_42 : decode cX4_run 42 = .ok (.iload_n 1, 1) := by decide +kernel
theorem dX4_run_43 : decode cX4_run 43 = .ok (.putfield 70, 3) := by decide +kernel
theorem dX4_run_46 : decode cX4_run 46 = .ok (.aload_n 0, 1) := by decide +kernel
theorem dX4_run_47 : decode cX4_run 47 = .ok (.iconst 0, 1) := by decide +kernel
theorem dX4_run_48 : decode cX4_run 48 = .ok (.putfield 74, 3) := by decide +kernel
theorem dX4_run_51 : decode cX4_run 51 = .ok (.aload_n 0, 1) := by decide +kernel
theorem dX4_run_52 : decode cX4_run 52 = .ok (.iconst 1, 1) := by decide +kernel
theorem dX4_run_53 : decode cX4_run 53 = .ok (.putfield 77, 3) := by decide +kernel
theorem dX4_run_56 : decode cX4_run 56 = .ok (.aload_n 0, 1) := by decide +kernel
theorem dX4_run_57 : decode cX4_run 57 = .ok (.iload_n 2, 1) := by decide +kernel
theorem dX4_run_58 : decode cX4_run 58 = .ok (.invokevirtual 80, 3) := by decide +kernel
theorem dX4_run_61 : decode cX4_run 61 = .ok (.ireturn, 1) := by decide +kernel
set_option maxRecDepth 20000 in
theorem ggX4_told_X2_number : GoodIn wsX4_told wsX2_number := goodIn_r _ [6, 7, 8, 9, 10, 11, 12, 13, 14, 22, 23, 24, 25, 26, 27, 28, 29, 30, 31] (by decide +kernel) (by decide +kernel)
set_option maxRecDepth 20000 in
theorem gX4_told_X2_number : GoodIn wsX4_told (wsV RX4 84 RX2 yX2_number wsX2_number) := goodIn_app (goodIn_of _ (by decide +kernel)) ggX4_told_X2_number
theorem dX4_told_0 : decode cX4_told 0 = .ok (.aload_n 0, 1) := by decide +kernel
theorem dX4_told_1 : decode cX4_told 1 = .ok (.getfield 33, 3) := by decide +kernel
theorem dX4_told_4 : decode cX4_told 4 = .ok (.iload_n 1, 1) := by decide +kernel
theorem dX4_told_5 : decode cX4_told 5 = .ok (.invokevirtual 84, 3) := by decide +kernel
theorem dX4_told_8 : decode cX4_told 8 = .ok (.ireturn, 1) := by decide +kernel
set_option maxRecDepth 20000 in
theorem ggX4_caught_X2_timesCaught : GoodIn wsX4_caught wsX2_timesCaught := goodIn_r _ [6, 7, 15, 16, 17, 18, 19, 20, 21, 22, 23, 24] (by decide +kernel) (by decide +kernel)
set_option maxRecDepth 20000 in
theorem gX4_caught_X2_timesCaught : GoodIn wsX4_caught (wsV RX4 87 RX2 yX2_timesCaught wsX2_timesCaught) := goodIn_app (goodIn_of _ (by decide +kernel)) ggX4_caught_X2_timesCaught
theorem dX4_caught_0 : decode cX4_caught 0 = .ok (.aload_n 0, 1) := by decide +kernel
theorem dX4_caught_1 : decode cX4_caught 1 = .ok (.getfield 33, 3) := by decide +kernel
theorem dX4_caught_4 : decode cX4_caught 4 = .ok (.iload_n 1, 1) := by decide +kernel
theorem dX4_caught_5 : decode cX4_caught 5 = .ok (.invokevirtual 87, 3) := by decide +kernel
theorem dX4_caught_8 : decode cX4_caught 8 = .ok (.ireturn, 1) := by decide +kernel
set_option maxRecDepth 20000 in
theorem ggX4_about_X4_isShelf : GoodIn wsX4_about wsX4_isShelf := goodIn_r _ [5] (by decide +kernel) (by decide +kernel)
set_option maxRecDepth 20000 in
theorem gX4_about_X4_isShelf : GoodIn wsX4_about (va_wsS RX4 60 yX4_isShelf wsX4_isShelf) := goodIn_app (goodIn_of _ (by decide +kernel)) ggX4_about_X4_isShelf
set_option maxRecDepth 20000 in
theorem ggX4_about_X3_isThere : GoodIn wsX4_about wsX3_isThere := goodIn_r _ [10, 11, 3, 4, 5, 29, 30, 31, 32] (by decide +kernel) (by decide +kernel)
set_option maxRecDepth 20000 in
theorem gX4_about_X3_isThere : GoodIn wsX4_about (wsV RX4 90 RX3 yX3_isThere wsX3_isThere) := goodIn_app (goodIn_of _ (by decide +kernel)) ggX4_about_X3_isThere
set_option maxRecDepth 20000 in
theorem ggX4_about_X3_goodsOf : GoodIn wsX4_about wsX3_goodsOf := goodIn_r _ [15, 11, 16, 7, 8, 9, 10, 3, 4, 5, 29, 30, 31, 32] (by decide +kernel) (by decide +kernel)
set_option maxRecDepth 20000 in
theorem gX4_about_X3_goodsOf : GoodIn wsX4_about (wsV RX4 93 RX3 yX3_goodsOf wsX3_goodsOf) := goodIn_app (goodIn_of _ (by decide +kernel)) ggX4_about_X3_goodsOf
set_option maxRecDepth 20000 in
theorem ggX4_about_X3_leftOf : GoodIn wsX4_about wsX3_leftOf := goodIn_r _ [20, 21, 16, 7, 8, 9, 10, 11, 3, 4, 5, 29, 30, 31, 32] (by decide +kernel) (by decide +kernel)
set_option maxRecDepth 20000 in
theorem gX4_about_X3_leftOf : GoodIn wsX4_about (wsV RX4 96 RX3 yX3_leftOf wsX3_leftOf) := goodIn_app (goodIn_of _ (by decide +kernel)) ggX4_about_X3_leftOf
theorem dX4_about_0 : decode cX4_about 0 = .ok (.iload_n 1, 1) := by decide +kernel
theorem dX4_about_1 : decode cX4_about 1 = .ok (.invokestatic 60, 3) := by decide +kernel
theorem dX4_about_4 : decode cX4_about 4 = .ok (.ifCond .eq 12, 3) := by decide +kernel
theorem dX4_about_7 : decode cX4_about 7 = .ok (.iload_n 2, 1) := by decide +kernel
theorem dX4_about_8 : decode cX4_about 8 = .ok (.ifCond .lt 8, 3) := by decide +kernel
theorem dX4_about_11 : decode cX4_about 11 = .ok (.iload_n 2, 1) := by decide +kernel
theorem dX4_about_12 : decode cX4_about 12 = .ok (.iconst 1, 1) := by decide +kernel
theorem dX4_about_13 : decode cX4_about 13 = .ok (.if_icmp .le 5, 3) := by decide +kernel
theorem dX4_about_16 : decode cX4_about 16 = .ok (.iconst (-1), 1) := by decide +kernel
theorem dX4_about_17 : decode cX4_about 17 = .ok (.ireturn, 1) := by decide +kernel
theorem dX4_about_18 : decode cX4_about 18 = .ok (.aload_n 0, 1) := by decide +kernel
theorem dX4_about_19 : decode cX4_about 19 = .ok (.getfield 19, 3) := by decide +kernel
theorem dX4_about_22 : decode cX4_about 22 = .ok (.iload_n 1, 1) := by decide +kernel
theorem dX4_about_23 : decode cX4_about 23 = .ok (.invokevirtual 90, 3) := by decide +kernel
theorem dX4_about_26 : decode cX4_about 26 = .ok (.ifCond .ne 6, 3) := by decide +kernel
theorem dX4_about_29 : decode cX4_about 29 = .ok (.bipush (-3), 2) := by decide +kernel
theorem dX4_about_31 : decode cX4_about 31 = .ok (.ireturn, 1) := by decide +kernel
theorem dX4_about_32 : decode cX4_about 32 = .ok (.iload_n 2, 1) := by decide +kernel
theorem dX4_about_33 : decode cX4_about 33 = .ok (.ifCond .ne 14, 3) := by decide +kernel
theorem dX4_about_36 : decode cX4_about 36 = .ok (.aload_n 0, 1) := by decide +kernel
theorem dX4_about_37 : decode cX4_about 37 = .ok (.getfield 19, 3) := by decide +kernel
theorem dX4_about_40 : decode cX4_about 40 = .ok (.iload_n 1, 1) := by decide +kernel
theorem dX4_about_41 : decode cX4_about 41 = .ok (.invokevirtual 93, 3) := by decide +kernel
theorem dX4_about_44 : decode cX4_about 44 = .ok (.goto 11, 3) := by decide +kernel
theorem dX4_about_47 : decode cX4_about 47 = .ok (.aload_n 0, 1) := by decide +kernel
theorem dX4_about_48 : decode cX4_about 48 = .ok (.getfield 19, 3) := by decide +kernel
theorem dX4_about_51 : decode cX4_about 51 = .ok (.iload_n 1, 1) := by decide +kernel
theorem dX4_about_52 : decode cX4_about 52 = .ok (.invokevirtual 96, 3) := by decide +kernel
theorem dX4_about_55 : decode cX4_about 55 = .ok (.ireturn, 1) := by decide +kernel
set_option maxRecDepth 20000 in
theorem ggX4_first_X3_firstWith : GoodIn wsX4_first wsX3_firstWith := goodIn_r _ [6, 7, 8, 9, 10, 5, 11, 12, 13, 14, 22, 23, 24, 25] (by decide +kernel) (by decide +kernel)
set_option maxRecDepth 20000 in
theorem gX4_first_X3_firstWith : GoodIn wsX4_first (wsV RX4 99 RX3 yX3_firstWith wsX3_firstWith) := goodIn_app (goodIn_of _ (by decide +kernel)) ggX4_first_X3_firstWith
theorem dX4_first_0 : decode cX4_first 0 = .ok (.aload_n 0, 1) := by decide +kernel
theorem dX4_first_1 : decode cX4_first 1 = .ok (.getfield 19, 3) := by decide +kernel
theorem dX4_first_4 : decode cX4_first 4 = .ok (.iload_n 1, 1) := by decide +kernel
theorem dX4_first_5 : decode cX4_first 5 = .ok (.invokevirtual 99, 3) := by decide +kernel
theorem dX4_first_8 : decode cX4_first 8 = .ok (.ireturn, 1) := by decide +kernel
set_option maxRecDepth 20000 in
theorem ggX4_row_X3_rowUpTo : GoodIn wsX4_row wsX3_rowUpTo := goodIn_r _ [6, 7, 8, 9, 10, 5, 11, 12, 13, 14, 22, 23, 24, 25] (by decide +kernel) (by decide +kernel)
set_option maxRecDepth 20000 in
theorem gX4_row_X3_rowUpTo : GoodIn wsX4_row (wsV RX4 102 RX3 yX3_rowUpTo wsX3_rowUpTo) := goodIn_app (goodIn_of _ (by decide +kernel)) ggX4_row_X3_rowUpTo
theorem dX4_row_0 : decode cX4_row 0 = .ok (.aload_n 0, 1) := by decide +kernel
theorem dX4_row_1 : decode cX4_row 1 = .ok (.getfield 19, 3) := by decide +kernel
theorem dX4_row_4 : decode cX4_row 4 = .ok (.iload_n 1, 1) := by decide +kernel
theorem dX4_row_5 : decode cX4_row 5 = .ok (.invokevirtual 102, 3) := by decide +kernel
theorem dX4_row_8 : decode cX4_row 8 = .ok (.ireturn, 1) := by decide +kernel
set_option maxRecDepth 20000 in
theorem ggX4_rest_X3_giveRest : GoodIn wsX4_rest wsX3_giveRest := goodIn_r _ [6, 7, 15, 16, 17, 18] (by decide +kernel) (by decide +kernel)
set_option maxRecDepth 20000 in
theorem gX4_rest_X3_giveRest : GoodIn wsX4_rest (wsV RX4 105 RX3 yX3_giveRest wsX3_giveRest) := goodIn_app (goodIn_of _ (by decide +kernel)) ggX4_rest_X3_giveRest
theorem dX4_rest_0 : decode cX4_rest 0 = .ok (.aload_n 0, 1) := by decide +kernel
theorem dX4_rest_1 : decode cX4_rest 1 = .ok (.getfield 19, 3) := by decide +kernel
theorem dX4_rest_4 : decode cX4_rest 4 = .ok (.invokevirtual 105, 3) := by decide +kernel
theorem dX4_rest_7 : decode cX4_rest 7 = .ok (.ireturn, 1) := by decide +kernel
set_option maxRecDepth 20000 in
theorem ggX4_goods_X3_inAll : GoodIn wsX4_goods wsX3_inAll := goodIn_r _ [6, 7, 8, 9, 5, 10, 11, 12, 13, 14, 15, 16, 17, 18, 26, 27, 28, 29] (by decide +kernel) (by decide +kernel)
set_option maxRecDepth 20000 in
theorem gX4_goods_X3_inAll : GoodIn wsX4_goods (wsV RX4 108 RX3 yX3_inAll wsX3_inAll) := goodIn_app (goodIn_of _ (by decide +kernel)) ggX4_goods_X3_inAll
theorem dX4_goods_0 : decode cX4_goods 0 = .ok (.aload_n 0, 1) := by decide +kernel
theorem dX4_goods_1 : decode cX4_goods 1 = .ok (.getfield 19, 3) := by decide +kernel
theorem dX4_goods_4 : decode cX4_goods 4 = .ok (.invokevirtual 108, 3) := by decide +kernel
theorem dX4_goods_7 : decode cX4_goods 7 = .ok (.ireturn, 1) := by decide +kernel
set_option maxRecDepth 20000 in
theorem ggX4_doActs_X4_isPlan : GoodIn wsX4_doActs wsX4_isPlan := goodIn_r _ [9] (by decide +kernel) (by decide +kernel)
set_option maxRecDepth 20000 in
theorem gX4_doActs_X4_isPlan : GoodIn wsX4_doActs (va_wsS RX4 37 yX4_isPlan wsX4_isPlan) := goodIn_app (goodIn_of _ (by decide +kernel)) ggX4_doActs_X4_isPlan
set_option maxRecDepth 20000 in
theorem ggX4_doActs_X1_size : GoodIn wsX4_doActs wsX1_size := goodIn_r _ [14, 15, 219, 220] (by decide +kernel) (by decide +kernel)
set_option maxRecDepth 20000 in
theorem gX4_doActs_X1_size : GoodIn wsX4_doActs (wsV RX4 111 RX1 yX1_size wsX1_size) := goodIn_app (goodIn_of _ (by decide +kernel)) ggX4_doActs_X1_size
set_option maxRecDepth 20000 in
theorem ggX4_doActs_X4_leaveCall : GoodIn wsX4_doActs wsX4_leaveCall := goodIn_r _ [19, 20, 1, 2, 4, 21, 22, 23, 24, 25, 26, 27, 28, 29, 30, 31, 32, 33, 34, 35, 36, 212, 213, 214, 215, 216, 217, 218, 221, 222, 223, 224] (by decide +kernel) (by decide +kernel)
set_option maxRecDepth 20000 in
theorem gX4_doActs_X4_leaveCall : GoodIn wsX4_doActs (wsV RX4 114 RX4 yX4_leaveCall wsX4_leaveCall) := goodIn_app (goodIn_of _ (by decide +kernel)) ggX4_doActs_X4_leaveCall
set_option maxRecDepth 20000 in
theorem ggX4_doActs_X2_steps : GoodIn wsX4_doActs wsX2_steps := goodIn_r _ [41, 42, 225, 226, 227, 228, 229, 230, 231, 232, 233, 234] (by decide +kernel) (by decide +kernel)
set_option maxRecDepth 20000 in
theorem gX4_doActs_X2_steps : GoodIn wsX4_doActs (wsV RX4 117 RX2 yX2_steps wsX2_steps) := goodIn_app (goodIn_of _ (by decide +kernel)) ggX4_doActs_X2_steps
set_option maxRecDepth 20000 in
theorem ggX4_doActs_X4_stop : GoodIn wsX4_doActs wsX4_stop := goodIn_r _ [46, 5, 1, 2, 47, 48, 49, 40, 50, 51, 52, 53, 54, 55, 56, 8, 57, 20, 58, 59, 60, 24, 61, 26, 62, 63, 64, 65, 66, 16, 17, 18, 19, 4, 21, 22, 23, 25, 27, 28, 29, 30, 31, 32, 33, 34, 35, 36, 67, 68, 69, 70, 71, 72, 73, 74, 75, 76, 77, 78, 79, 80, 81, 82, 83, 84, 85, 86, 87, 88, 89, 90, 91, 92, 93, 94, 95, 96, 97, 98, 99, 100, 101, 102, 103, 212, 213, 214, 215, 216, 217, 218, 225, 226, 227, 228, 229, 230, 231, 232, 233, 234, 221, 222, 223, 224, 235, 236, 237, 238] (by decide +kernel) (by decide +kernel)
set_option maxRecDepth 20000 in
theorem gX4_doActs_X4_stop : GoodIn wsX4_doActs (wsV RX4 120 RX4 yX4_stop wsX4_stop) := goodIn_app (goodIn_of _ (by decide +kernel)) ggX4_doActs_X4_stop
set_option maxRecDepth 20000 in
theorem ggX4_doActs_X4_doStep : GoodIn wsX4_doActs wsX4_doStep := goodIn_r _ [107, 1, 2, 5, 3, 108, 109, 110, 40, 111, 42, 112, 113, 114, 8, 115, 20, 71, 116, 117, 118, 13, 119, 120, 121, 122, 123, 15, 124, 125, 126, 127, 128, 129, 130, 131, 132, 133, 134, 135, 136, 137, 138, 139, 75, 140, 141, 78, 79, 142, 143, 144, 145, 93, 146, 147, 148, 149, 150, 88, 151, 152, 153, 154, 155, 156, 157, 158, 24, 159, 26, 66, 27, 32, 160, 161, 162, 163, 164, 165, 166, 167, 168, 80, 81, 82, 83, 62, 63, 64, 65, 84, 85, 86, 87, 21, 22, 23, 25, 89, 90, 91, 92, 33, 34, 35, 36, 169, 170, 171, 172, 173, 174, 175, 176, 177, 178, 179, 180, 181, 182, 183, 184, 185, 186, 187, 188, 189, 190, 191, 192, 193, 194, 195, 196, 197, 198, 199, 200, 201, 202, 4, 6, 7, 9, 203, 204, 205, 206, 207, 208, 209, 210, 211, 54, 55, 56, 57, 58, 59, 60, 61, 16, 17, 18, 19, 28, 29, 30, 31, 67, 68, 69, 70, 72, 73, 74, 76, 77, 94, 95, 96, 97, 98, 99, 100, 101, 102, 103, 47, 48, 49, 50, 51, 52, 53, 212, 213, 214, 215, 216, 217, 218, 225, 226, 227, 228, 229, 230, 231, 232, 233, 234, 219, 220, 235, 236, 237, 238, 221, 222, 223, 224] (by decide +kernel) (by decide +kernel)
set_option maxRecDepth 20000 in
theorem gX4_doActs_X4_doStep : GoodIn wsX4_doActs (wsV RX4 123 RX4 yX4_doStep wsX4_doStep) := goodIn_app (goodIn_of _ (by decide +kernel)) ggX4_doActs_X4_doStep
theorem dX4_doActs_0 : decode cX4_doActs 0 = .ok (.iconst 0, 1) := by decide +kernel
theorem dX4_doActs_1 : decode cX4_doActs 1 = .ok (.istore_n 2, 1) := by decide +kernel
theorem dX4_doActs_2 : decode cX4_doActs 2 = .ok (.iload_n 2, 1) := by decide +kernel
theorem dX4_doActs_3 : decode cX4_doActs 3 = .ok (.sipush 128, 3) := by decide +kernel
theorem dX4_doActs_6 : decode cX4_doActs 6 = .ok (.if_icmp .gt 80, 3) := by decide +kernel
theorem dX4_doActs_9 : decode cX4_doActs 9 = .ok (.aload_n 0, 1) := by decide +kernel
theorem dX4_doActs_10 : decode cX4_doActs 10 = .ok (.getfield 70, 3) := by decide +kernel
theorem dX4_doActs_13 : decode cX4_doActs 13 = .ok (.invokestatic 37, 3) := by decide +kernel
theorem dX4_doActs_16 : decode cX4_doActs 16 = .ok (.ifCond .eq 22, 3) := by decide +kernel
theorem dX4_doActs_19 : decode cX4_doActs 19 = .ok (.aload_n 0, 1) := by decide +kernel
theorem dX4_doActs_20 : decode cX4_doActs 20 = .ok (.getfield 74, 3) := by decide +kernel
theorem dX4_doActs_23 : decode cX4_doActs 23 = .ok (.aload_n 0, 1) := by decide +kernel
theorem dX4_doActs_24 : decode cX4_doActs 24 = .ok (.getfield 11, 3) := by decide +kernel
theorem dX4_doActs_27 : decode cX4_doActs 27 = .ok (.aload_n 0, 1) := by decide +kernel
theorem dX4_doActs_28 : decode cX4_doActs 28 = .ok (.getfield 70, 3) := by decide +kernel
theorem dX4_doActs_31 : decode cX4_doActs 31 = .ok (.aaload, 1) := by decide +kernel
theorem dX4_doActs_32 : decode cX4_doActs 32 = .ok (.invokevirtual 111, 3) := by decide +kernel
theorem dX4_doActs_35 : decode cX4_doActs 35 = .ok (.if_icmp .lt 20, 3) := by decide +kernel
theorem dX4_doActs_38 : decode cX4_doActs 38 = .ok (.aload_n 0, 1) := by decide +kernel
theorem dX4_doActs_39 : decode cX4_doActs 39 = .ok (.getfield 77, 3) := by decide +kernel
theorem dX4_doActs_42 : decode cX4_doActs 42 = .ok (.iconst 1, 1) := by decide +kernel
theorem dX4_doActs_43 : decode cX4_doActs 43 = .ok (.if_icmp .gt 5, 3) := by decide +kernel
theorem dX4_doActs_46 : decode cX4_doActs 46 = .ok (.iconst 0, 1) := by decide +kernel
theorem dX4_doActs_47 : decode cX4_doActs 47 = .ok (.ireturn, 1) := by decide +kernel
theorem dX4_doActs_48 : decode cX4_doActs 48 = .ok (.aload_n 0, 1) := by decide +kernel
theorem dX4_doActs_49 : decode cX4_doActs 49 = .ok (.invokevirtual 114, 3) := by decide +kernel
theorem dX4_doActs_52 : decode cX4_doActs 52 = .ok (.goto 28, 3) := by decide +kernel
theorem dX4_doActs_55 : decode cX4_doActs 55 = .ok (.aload_n 0, 1) := by decide +kernel
theorem dX4_doActs_56 : decode cX4_doActs 56 = .ok (.getfield 33, 3) := by decide +kernel
theorem dX4_doActs_59 : decode cX4_doActs 59 = .ok (.invokevirtual 117, 3) := by decide +kernel
theorem dX4_doActs_62 : decode cX4_doActs 62 = .ok (.iload_n 1, 1) := by decide +kernel
theorem dX4_doActs_63 : decode cX4_doActs 63 = .ok (.if_icmp .lt 8, 3) := by decide +kernel
theorem dX4_doActs_66 : decode cX4_doActs 66 = .ok (.aload_n 0, 1) := by decide +kernel
theorem dX4_doActs_67 : decode cX4_doActs 67 = .ok (.invokevirtual 120, 3) := by decide +kernel
theorem dX4_doActs_70 : decode cX4_doActs 70 = .ok (.ireturn, 1) := by decide +kernel
theorem dX4_doActs_71 : decode cX4_doActs 71 = .ok (.aload_n 0, 1) := by decide +kernel
theorem dX4_doActs_72 : decode cX4_doActs 72 = .ok (.invokevirtual 123, 3) := by decide +kernel
theorem dX4_doActs_75 : decode cX4_doActs 75 = .ok (.ifCond .ne 5, 3) := by decide +kernel
theorem dX4_doActs_78 : decode cX4_doActs 78 = .ok (.iconst 1, 1) := by decide +kernel
theorem dX4_doActs_79 : decode cX4_doActs 79 = .ok (.ireturn, 1) := by decide +kernel
theorem dX4_doActs_80 : decode cX4_doActs 80 = .ok (.iinc 2 1, 3) := by decide +kernel
theorem dX4_doActs_83 : decode cX4_doActs 83 = .ok (.goto (-81), 3) := by decide +kernel
theorem dX4_doActs_86 : decode cX4_doActs 86 = .ok (.iconst 0, 1) := by decide +kernel
theorem dX4_doActs_87 : decode cX4_doActs 87 = .ok (.ireturn, 1) := by decide +kernel
set_option maxRecDepth 20000 in
theorem ggX4_stop_X2_endAt : GoodIn wsX4_stop wsX2_endAt := goodIn_r _ [8, 9, 10, 11, 92, 93, 94, 95, 96, 97, 98, 99, 100, 101] (by decide +kernel) (by decide +kernel)
set_option maxRecDepth 20000 in
theorem gX4_stop_X2_endAt : GoodIn wsX4_stop (wsV RX4 126 RX2 yX2_endAt wsX2_endAt) := goodIn_app (goodIn_of _ (by decide +kernel)) ggX4_stop_X2_endAt
set_option maxRecDepth 20000 in
theorem ggX4_stop_X4_leaveOpen : GoodIn wsX4_stop wsX4_leaveOpen := goodIn_r _ [16, 17, 18, 19, 20, 21, 22, 23, 24, 25, 26, 27, 28, 29, 30, 31, 15, 32, 2, 3, 33, 34, 35, 36, 37, 38, 39, 40, 41, 42, 43, 44, 45, 46, 47, 48, 49, 50, 51, 52, 53, 54, 55, 56, 57, 58, 59, 60, 61, 62, 63, 64, 1, 65, 66, 67, 7, 68, 69, 70, 71, 72, 73, 74, 75, 76, 77, 78, 79, 80, 81, 82, 83, 84, 85, 86, 87, 88, 89, 90, 91, 102, 103, 104, 105, 106, 107, 108, 109, 92, 93, 94, 95, 96, 97, 98, 99, 100, 101] (by decide +kernel) (by decide +kernel)
set_option maxRecDepth 20000 in
theorem gX4_stop_X4_leaveOpen : GoodIn wsX4_stop (wsV RX4 130 RX4 yX4_leaveOpen wsX4_leaveOpen) := goodIn_app (goodIn_of _ (by decide +kernel)) ggX4_stop_X4_leaveOpen
theorem dX4_stop_0 : decode cX4_stop 0 = .ok (.aload_n 0, 1) := by decide +kernel
theorem dX4_stop_1 : decode cX4_stop 1 = .ok (.getfield 33, 3) := by decide +kernel
theorem dX4_stop_4 : decode cX4_stop 4 = .ok (.iconst 0, 1) := by decide +kernel
theorem dX4_stop_5 : decode cX4_stop 5 = .ok (.aload_n 0, 1) := by decide +kernel
theorem dX4_stop_6 : decode cX4_stop 6 = .ok (.getfield 70, 3) := by decide +kernel
theorem dX4_stop_9 : decode cX4_stop 9 = .ok (.aload_n 0, 1) := by decide +kernel
theorem dX4_stop_10 : decode cX4_stop 10 = .ok (.getfield 74, 3) := by decide +kernel
theorem dX4_stop_13 : decode cX4_stop 13 = .ok (.invokevirtual 126, 3) := by decide +kernel
theorem dX4_stop_16 : decode cX4_stop 16 = .ok (.aload_n 0, 1) := by decide +kernel
theorem dX4_stop_17 : decode cX4_stop 17 = .ok (.iconst 0, 1) := by decide +kernel
theorem dX4_stop_18 : decode cX4_stop 18 = .ok (.invokevirtual 130, 3) := by decide +kernel
theorem dX4_stop_21 : decode cX4_stop 21 = .ok (.pop, 1) := by decide +kernel
theorem dX4_stop_22 : decode cX4_stop 22 = .ok (.iconst 2, 1) := by decide +kernel
theorem dX4_stop_23 : decode cX4_stop 23 = .ok (.ireturn, 1) := by decide +kernel
set_option maxRecDepth 20000 in
theorem ggX4_doStep_X2_countStep : GoodIn wsX4_doStep wsX2_countStep := goodIn_r _ [9, 10, 203, 204, 205, 206, 207, 208, 209, 210, 211, 212] (by decide +kernel) (by decide +kernel)
set_option maxRecDepth 20000 in
theorem gX4_doStep_X2_countStep : GoodIn wsX4_doStep (wsV RX4 133 RX2 yX2_countStep wsX2_countStep) := goodIn_app (goodIn_of _ (by decide +kernel)) ggX4_doStep_X2_countStep
set_option maxRecDepth 20000 in
theorem ggX4_doStep_X4_doAct : GoodIn wsX4_doStep wsX4_doAct := goodIn_r _ [15, 16, 17, 18, 19, 20, 21, 22, 23, 24, 25, 26, 27, 28, 29, 30, 31, 32, 33, 34, 35, 36, 37, 38, 39, 14, 40, 3, 41, 42, 43, 44, 45, 46, 47, 48, 49, 50, 51, 52, 53, 54, 55, 56, 8, 57, 58, 59, 60, 61, 62, 63, 64, 65, 66, 67, 68, 69, 70, 71, 72, 73, 74, 75, 76, 77, 78, 79, 80, 81, 82, 83, 84, 85, 86, 87, 88, 89, 90, 91, 92, 93, 94, 95, 96, 97, 98, 99, 100, 101, 102, 103, 104, 105, 106, 107, 108, 109, 110, 111, 112, 113, 114, 115, 116, 117, 118, 119, 120, 121, 122, 123, 124, 125, 126, 127, 128, 129, 130, 131, 132, 133, 134, 135, 136, 137, 138, 139, 140, 141, 4, 1, 2, 142, 143, 144, 145, 146, 147, 148, 149, 150, 151, 152, 153, 196, 197, 198, 199, 200, 201, 202, 213, 214, 215, 216, 217, 218, 203, 204, 205, 206, 207, 208, 209, 210, 211, 212, 219, 220, 221, 222] (by decide +kernel) (by decide +kernel)
set_option maxRecDepth 20000 in
theorem gX4_doStep_X4_doAct : GoodIn wsX4_doStep (wsV RX4 136 RX4 yX4_doAct wsX4_doAct) := goodIn_app (goodIn_of _ (by decide +kernel)) ggX4_doStep_X4_doAct
set_option maxRecDepth 20000 in
theorem ggX4_doStep_X4_leaveOpen : GoodIn wsX4_doStep wsX4_leaveOpen := goodIn_r _ [157, 16, 158, 159, 160, 68, 161, 70, 87, 88, 89, 90, 71, 162, 163, 164, 14, 165, 1, 2, 141, 95, 96, 97, 98, 72, 166, 167, 168, 169, 73, 103, 104, 105, 106, 170, 171, 172, 173, 17, 174, 175, 176, 44, 177, 178, 47, 48, 83, 84, 85, 86, 3, 91, 92, 93, 8, 94, 59, 99, 100, 101, 102, 53, 179, 180, 181, 182, 183, 184, 185, 186, 187, 188, 196, 197, 198, 199, 200, 201, 202, 219, 220, 221, 222, 215, 216, 217, 218, 203, 204, 205, 206, 207, 208, 209, 210, 211, 212] (by decide +kernel) (by decide +kernel)
set_option maxRecDepth 20000 in
theorem gX4_doStep_X4_leaveOpen : GoodIn wsX4_doStep (wsV RX4 130 RX4 yX4_leaveOpen wsX4_leaveOpen) := goodIn_app (goodIn_of _ (by decide +kernel)) ggX4_doStep_X4_leaveOpen
set_option maxRecDepth 20000 in
theorem ggX4_doStep_X2_endAt : GoodIn wsX4_doStep wsX2_endAt := goodIn_r _ [192, 193, 194, 195, 203, 204, 205, 206, 207, 208, 209, 210, 211, 212] (by decide +kernel) (by decide +kernel)
set_option maxRecDepth 20000 in
theorem gX4_doStep_X2_endAt : GoodIn wsX4_doStep (wsV RX4 126 RX2 yX2_endAt wsX2_endAt) := goodIn_app (goodIn_of _ (by decide +kernel)) ggX4_doStep_X2_endAt
theorem dX4_doStep_0 : decode cX4_doStep 0 = .ok (.aload_n 0, 1) := by decide +kernel
theorem dX4_doStep_1 : decode cX4_doStep 1 = .ok (.getfield 70, 3) := by decide +kernel
theorem dX4_doStep_4 : decode cX4_doStep 4 = .ok (.istore_n 1, 1) := by decide +kernel
theorem dX4_doStep_5 : decode cX4_doStep 5 = .ok (.aload_n 0, 1) := by decide +kernel
theorem dX4_doStep_6 : decode cX4_doStep 6 = .ok (.getfield 74, 3) := by decide +kernel
theorem dX4_doStep_9 : decode cX4_doStep 9 = .ok (.istore_n 2, 1) := by decide +kernel
theorem dX4_doStep_10 : decode cX4_doStep 10 = .ok (.aload_n 0, 1) := by decide +kernel
theorem dX4_doStep_11 : decode cX4_doStep 11 = .ok (.dup, 1) := by decide +kernel
theorem dX4_doStep_12 : decode cX4_doStep 12 = .ok (.getfield 74, 3) := by decide +kernel
theorem dX4_doStep_15 : decode cX4_doStep 15 = .ok (.iconst 1, 1) := by decide +kernel
theorem dX4_doStep_16 : decode cX4_doStep 16 = .ok (.iadd, 1) := by decide +kernel
theorem dX4_doStep_17 : decode cX4_doStep 17 = .ok (.putfield 74, 3) := by decide +kernel
theorem dX4_doStep_20 : decode cX4_doStep 20 = .ok (.aload_n 0, 1) := by decide +kernel
theorem dX4_doStep_21 : decode cX4_doStep 21 = .ok (.getfield 33, 3) := by decide +kernel
theorem dX4_doStep_24 : decode cX4_doStep 24 = .ok (.invokevirtual 133, 3) := by decide +kernel
theorem dX4_doStep_27 : decode cX4_doStep 27 = .ok (.aload_n 0, 1) := by decide +kernel
theorem dX4_doStep_28 : decode cX4_doStep 28 = .ok (.aload_n 0, 1) := by decide +kernel
theorem dX4_doStep_29 : decode cX4_doStep 29 = .ok (.getfield 11, 3) := by decide +kernel
theorem dX4_doStep_32 : decode cX4_doStep 32 = .ok (.iload_n 1, 1) := by decide +kernel
theorem dX4_doStep_33 : decode cX4_doStep 33 = .ok (.aaload, 1) := by decide +kernel
theorem dX4_doStep_34 : decode cX4_doStep 34 = .ok (.iload_n 2, 1) := by decide +kernel
theorem dX4_doStep_35 : decode cX4_doStep 35 = .ok (.invokevirtual 136, 3) := by decide +kernel
theorem dX4_doStep_38 : decode cX4_doStep 38 = .ok (.istore_n 3, 1) := by decide +kernel
theorem dX4_doStep_39 : decode cX4_doStep 39 = .ok (.iload_n 3, 1) := by decide +kernel
theorem dX4_doStep_40 : decode cX4_doStep 40 = .ok (.ifCond .eq 11, 3) := by decide +kernel
theorem dX4_doStep_43 : decode cX4_doStep 43 = .ok (.aload_n 0, 1) := by decide +kernel
theorem dX4_doStep_44 : decode cX4_doStep 44 = .ok (.iload_n 3, 1) := by decide +kernel
theorem dX4_doStep_45 : decode cX4_doStep 45 = .ok (.invokevirtual 130, 3) := by decide +kernel
theorem dX4_doStep_48 : decode cX4_doStep 48 = .ok (.ifCond .eq 5, 3) := by decide +kernel
theorem dX4_doStep_51 : decode cX4_doStep 51 = .ok (.iconst 1, 1) := by decide +kernel
theorem dX4_doStep_52 : decode cX4_doStep 52 = .ok (.ireturn, 1) := by decide +kernel
theorem dX4_doStep_53 : decode cX4_doStep 53 = .ok (.aload_n 0, 1) := by decide +kernel
theorem dX4_doStep_54 : decode cX4_doStep 54 = .ok (.getfield 33, 3) := by decide +kernel
theorem dX4_doStep_57 : decode cX4_doStep 57 = .ok (.iload_n 3, 1) := by decide +kernel
theorem dX4_doStep_58 : decode cX4_doStep 58 = .ok (.iload_n 1, 1) := by decide +kernel
theorem dX4_doStep_59 : decode cX4_doStep 59 = .ok (.iload_n 2, 1) := by decide +kernel
theorem dX4_doStep_60 : decode cX4_doStep 60 = .ok (.invokevirtual 126, 3) := by decide +kernel
theorem dX4_doStep_63 : decode cX4_doStep 63 = .ok (.iconst 0, 1) := by decide +kernel
theorem dX4_doStep_64 : decode cX4_doStep 64 = .ok (.ireturn, 1) := by decide +kernel
set_option maxRecDepth 20000 in
theorem ggX4_doAct_X1_aOf : GoodIn wsX4_doAct wsX1_aOf := goodIn_r _ [7, 8, 9, 10, 6, 11, 12, 13, 152, 153] (by decide +kernel) (by decide +kernel)
set_option maxRecDepth 20000 in
theorem gX4_doAct_X1_aOf : GoodIn wsX4_doAct (wsV RX4 140 RX1 yX1_aOf wsX1_aOf) := goodIn_app (goodIn_of _ (by decide +kernel)) ggX4_doAct_X1_aOf
set_option maxRecDepth 20000 in
theorem ggX4_doAct_X1_bOf : GoodIn wsX4_doAct wsX1_bOf := goodIn_r _ [17, 8, 9, 10, 6, 11, 12, 13, 152, 153] (by decide +kernel) (by decide +kernel)
set_option maxRecDepth 20000 in
theorem gX4_doAct_X1_bOf : GoodIn wsX4_doAct (wsV RX4 143 RX1 yX1_bOf wsX1_bOf) := goodIn_app (goodIn_of _ (by decide +kernel)) ggX4_doAct_X1_bOf
set_option maxRecDepth 20000 in
theorem ggX4_doAct_X1_kindOf : GoodIn wsX4_doAct wsX1_kindOf := goodIn_r _ [21, 12, 13, 152, 153] (by decide +kernel) (by decide +kernel)
set_option maxRecDepth 20000 in
theorem gX4_doAct_X1_kindOf : GoodIn wsX4_doAct (wsV RX4 146 RX1 yX1_kindOf wsX1_kindOf) := goodIn_app (goodIn_of _ (by decide +kernel)) ggX4_doAct_X1_kindOf
set_option maxRecDepth 20000 in
theorem ggX4_doAct_X4_hold : GoodIn wsX4_doAct wsX4_hold := goodIn_r _ [26, 2, 27, 1, 28, 29, 30, 31, 32, 33, 34, 25, 35, 36, 37, 38, 39, 40, 41, 42, 43, 44, 45, 46, 47, 48, 49, 50, 51, 52, 53, 54, 55, 56, 57, 58, 59, 60, 61, 145, 146, 147, 148, 149, 150, 151, 154, 155, 156, 157, 158, 159, 160, 161, 162, 163, 164, 165, 166, 167, 168, 169, 170, 171] (by decide +kernel) (by decide +kernel)
set_option maxRecDepth 20000 in
theorem gX4_doAct_X4_hold : GoodIn wsX4_doAct (wsV RX4 149 RX4 yX4_hold wsX4_hold) := goodIn_app (goodIn_of _ (by decide +kernel)) ggX4_doAct_X4_hold
set_option maxRecDepth 20000 in
theorem ggX4_doAct_X1_behindBlock : GoodIn wsX4_doAct wsX1_behindBlock := goodIn_r _ [65, 12, 66, 67, 68, 6, 69, 70, 19, 20, 21, 13, 152, 153] (by decide +kernel) (by decide +kernel)
set_option maxRecDepth 20000 in
theorem gX4_doAct_X1_behindBlock : GoodIn wsX4_doAct (wsV RX4 152 RX1 yX1_behindBlock wsX1_behindBlock) := goodIn_app (goodIn_of _ (by decide +kernel)) ggX4_doAct_X1_behindBlock
set_option maxRecDepth 20000 in
theorem ggX4_doAct_X0_push : GoodIn wsX4_doAct wsX0_push := goodIn_r _ [57, 58, 59, 60, 61, 168, 169, 170, 171] (by decide +kernel) (by decide +kernel)
set_option maxRecDepth 20000 in
theorem gX4_doAct_X0_push : GoodIn wsX4_doAct (wsV RX4 155 RX0 yX0_push wsX0_push) := goodIn_app (goodIn_of _ (by decide +kernel)) ggX4_doAct_X0_push
set_option maxRecDepth 20000 in
theorem ggX4_doAct_X4_endBlock : GoodIn wsX4_doAct wsX4_endBlock := goodIn_r _ [74, 1, 27, 2, 75, 76, 77, 56, 78, 58, 59, 79, 80, 81, 44, 82, 47, 83, 84, 85, 86, 60, 87, 88, 89, 31, 90, 40, 34, 25, 35, 91, 92, 93, 94, 145, 146, 147, 148, 149, 150, 151, 168, 169, 170, 171, 158, 159, 160, 161, 162, 163, 164, 165, 166, 167, 154, 155, 156, 157] (by decide +kernel) (by decide +kernel)
set_option maxRecDepth 20000 in
theorem gX4_doAct_X4_endBlock : GoodIn wsX4_doAct (wsV RX4 158 RX4 yX4_endBlock wsX4_endBlock) := goodIn_app (goodIn_of _ (by decide +kernel)) ggX4_doAct_X4_endBlock
set_option maxRecDepth 20000 in
theorem ggX4_doAct_X3_put : GoodIn wsX4_doAct wsX3_put := goodIn_r _ [98, 33, 99, 100, 101, 31, 102, 40, 103, 29, 30, 32, 34, 25, 35, 154, 155, 156, 157] (by decide +kernel) (by decide +kernel)
set_option maxRecDepth 20000 in
theorem gX4_doAct_X3_put : GoodIn wsX4_doAct (wsV RX4 161 RX3 yX3_put wsX3_put) := goodIn_app (goodIn_of _ (by decide +kernel)) ggX4_doAct_X3_put
set_option maxRecDepth 20000 in
theorem ggX4_doAct_X3_take : GoodIn wsX4_doAct wsX3_take := goodIn_r _ [107, 33, 99, 100, 101, 31, 102, 40, 103, 29, 30, 32, 34, 25, 35, 154, 155, 156, 157] (by decide +kernel) (by decide +kernel)
set_option maxRecDepth 20000 in
theorem gX4_doAct_X3_take : GoodIn wsX4_doAct (wsV RX4 164 RX3 yX3_take wsX3_take) := goodIn_app (goodIn_of _ (by decide +kernel)) ggX4_doAct_X3_take
set_option maxRecDepth 20000 in
theorem ggX4_doAct_X3_share : GoodIn wsX4_doAct wsX3_share := goodIn_r _ [111, 33, 112, 99, 100, 101, 31, 102, 40, 103, 29, 30, 32, 34, 25, 35, 154, 155, 156, 157] (by decide +kernel) (by decide +kernel)
set_option maxRecDepth 20000 in
theorem gX4_doAct_X3_share : GoodIn wsX4_doAct (wsV RX4 167 RX3 yX3_share wsX3_share) := goodIn_app (goodIn_of _ (by decide +kernel)) ggX4_doAct_X3_share
set_option maxRecDepth 20000 in
theorem ggX4_doAct_X1_cOf : GoodIn wsX4_doAct wsX1_cOf := goodIn_r _ [116, 8, 9, 10, 6, 11, 12, 13, 152, 153] (by decide +kernel) (by decide +kernel)
set_option maxRecDepth 20000 in
theorem gX4_doAct_X1_cOf : GoodIn wsX4_doAct (wsV RX4 170 RX1 yX1_cOf wsX1_cOf) := goodIn_app (goodIn_of _ (by decide +kernel)) ggX4_doAct_X1_cOf
set_option maxRecDepth 20000 in
theorem ggX4_doAct_X3_move : GoodIn wsX4_doAct wsX3_move := goodIn_r _ [120, 33, 34, 25, 35, 121, 122, 123, 31, 124, 154, 155, 156, 157] (by decide +kernel) (by decide +kernel)
set_option maxRecDepth 20000 in
theorem gX4_doAct_X3_move : GoodIn wsX4_doAct (wsV RX4 173 RX3 yX3_move wsX3_move) := goodIn_app (goodIn_of _ (by decide +kernel)) ggX4_doAct_X3_move
set_option maxRecDepth 20000 in
theorem ggX4_doAct_X4_call : GoodIn wsX4_doAct wsX4_call := goodIn_r _ [128, 129, 130, 27, 1, 131, 132, 133, 134, 25, 135, 136, 137, 138, 6, 139, 12, 66, 67, 68, 69, 70, 19, 20, 21, 13, 140, 141, 142, 44, 143, 144, 53, 54, 55, 56, 57, 58, 59, 60, 61, 145, 146, 147, 148, 149, 150, 151, 152, 153, 158, 159, 160, 161, 162, 163, 164, 165, 166, 167, 168, 169, 170, 171] (by decide +kernel) (by decide +kernel)
set_option maxRecDepth 20000 in
theorem gX4_doAct_X4_call : GoodIn wsX4_doAct (wsV RX4 177 RX4 yX4_call wsX4_call) := goodIn_app (goodIn_of _ (by decide +kernel)) ggX4_doAct_X4_call
theorem dX4_doAct_0 : decode cX4_doAct 0 = .ok (.aload_n 1, 1) := by decide +kernel
theorem dX4_doAct_1 : decode cX4_doAct 1 = .ok (.iload_n 2, 1) := by decide +kernel
theorem dX4_doAct_2 : decode cX4_doAct 2 = .ok (.invokevirtual 140, 3) := by decide +kernel
theorem dX4_doAct_5 : decode cX4_doAct 5 = .ok (.istore_n 3, 1) := by decide +kernel
theorem dX4_doAct_6 : decode cX4_doAct 6 = .ok (.aload_n 1, 1) := by decide +kernel
theorem dX4_doAct_7 : decode cX4_doAct 7 = .ok (.iload_n 2, 1) := by decide +kernel
theorem dX4_doAct_8 : decode cX4_doAct 8 = .ok (.invokevirtual 143, 3) := by decide +kernel
theorem dX4_doAct_11 : decode cX4_doAct 11 = .ok (.istore 4, 2) := by decide +kernel
theorem dX4_doAct_13 : decode cX4_doAct 13 = .ok (.aload_n 1, 1) := by decide +kernel
theorem dX4_doAct_14 : decode cX4_doAct 14 = .ok (.iload_n 2, 1) := by decide +kernel
theorem dX4_doAct_15 : decode cX4_doAct 15 = .ok (.invokevirtual 146, 3) := by decide +kernel
theorem dX4_doAct_18 : decode cX4_doAct 18 = .ok (.tableswitch 134 0 8 #[50, 56, 72, 77, 88, 99, 110, 126, 128], 50) := by decide +kernel
theorem dX4_doAct_68 : decode cX4_doAct 68 = .ok (.aload_n 0, 1) := by decide +kernel
theorem dX4_doAct_69 : decode cX4_doAct 69 = .ok (.iload_n 3, 1) := by decide +kernel
theorem dX4_doAct_70 : decode cX4_doAct 70 = .ok (.invokevirtual 149, 3) := by decide +kernel
theorem dX4_doAct_73 : decode cX4_doAct 73 = .ok (.ireturn, 1) := by decide +kernel
theorem dX4_doAct_74 : decode cX4_doAct 74 = .ok (.aload_n 0, 1) := by decide +kernel
theorem dX4_doAct_75 : decode cX4_doAct 75 = .ok (.getfield 26, 3) := by decide +kernel
theorem dX4_doAct_78 : decode cX4_doAct 78 = .ok (.iconst 1, 1) := by decide +kernel
theorem dX4_doAct_79 : decode cX4_doAct 79 = .ok (.iload_n 3, 1) := by decide +kernel
theorem dX4_doAct_80 : decode cX4_doAct 80 = .ok (.aload_n 1, 1) := by decide +kernel
theorem dX4_doAct_81 : decode cX4_doAct 81 = .ok (.iload_n 2, 1) := by decide +kernel
theorem dX4_doAct_82 : decode cX4_doAct 82 = .ok (.invokevirtual 152, 3) := by decide +kernel
theorem dX4_doAct_85 : decode cX4_doAct 85 = .ok (.invokevirtual 155, 3) := by decide +kernel
theorem dX4_doAct_88 : decode cX4_doAct 88 = .ok (.iconst 0, 1) := by decide +kernel
theorem dX4_doAct_89 : decode cX4_doAct 89 = .ok (.ireturn, 1) := by decide +kernel
theorem dX4_doAct_90 : decode cX4_doAct 90 = .ok (.aload_n 0, 1) := by decide +kernel
theorem dX4_doAct_91 : decode cX4_doAct 91 = .ok (.invokevirtual 158, 3) := by decide +kernel
theorem dX4_doAct_94 : decode cX4_doAct 94 = .ok (.ireturn, 1) := by decide +kernel
theorem dX4_doAct_95 : decode cX4_doAct 95 = .ok (.aload_n 0, 1) := by decide +kernel
theorem dX4_doAct_96 : decode cX4_doAct 96 = .ok (.getfield 19, 3) := by decide +kernel
theorem dX4_doAct_99 : decode cX4_doAct 99 = .ok (.iload_n 3, 1) := by decide +kernel
theorem dX4_doAct_100 : decode cX4_doAct 100 = .ok (.iload 4, 2) := by decide +kernel
theorem dX4_doAct_102 : decode cX4_doAct 102 = .ok (.invokevirtual 161, 3) := by decide +kernel
theorem dX4_doAct_105 : decode cX4_doAct 105 = .ok (.ireturn, 1) := by decide +kernel
theorem dX4_doAct_106 : decode cX4_doAct 106 = .ok (.aload_n 0, 1) := by decide +kernel
theorem dX4_doAct_107 : decode cX4_doAct 107 = .ok (.getfield 19, 3) := by decide +kernel
theorem dX4_doAct_110 : decode cX4_doAct 110 = .ok (.iload_n 3, 1) := by decide +kernel
theorem dX4_doAct_111 : decode cX4_doAct 111 = .ok (.iload 4, 2) := by decide +kernel
theorem dX4_doAct_113 : decode cX4_doAct 113 = .ok (.invokevirtual 164, 3) := by decide +kernel
theorem dX4_doAct_116 : decode cX4_doAct 116 = .ok (.ireturn, 1) := by decide +kernel
theorem dX4_doAct_117 : decode cX4_doAct 117 = .ok (.aload_n 0, 1) := by decide +kernel
theorem dX4_doAct_118 : decode cX4_doAct 118 = .ok (.getfield 19, 3) := by decide +kernel
theorem dX4_doAct_121 : decode cX4_doAct 121 = .ok (.iload_n 3, 1) := by decide +kernel
theorem dX4_doAct_122 : decode cX4_doAct 122 = .ok (.iload 4, 2) := by decide +kernel
theorem dX4_doAct_124 : decode cX4_doAct 124 = .ok (.invokevirtual 167, 3) := by decide +kernel
theorem dX4_doAct_127 : decode cX4_doAct 127 = .ok (.ireturn, 1) := by decide +kernel
theorem dX4_doAct_128 : decode cX4_doAct 128 = .ok (.aload_n 0, 1) := by decide +kernel
theorem dX4_doAct_129 : decode cX4_doAct 129 = .ok (.getfield 19, 3) := by decide +kernel
theorem dX4_doAct_132 : decode cX4_doAct 132 = .ok (.iload_n 3, 1) := by decide +kernel
theorem dX4_doAct_133 : decode cX4_doAct 133 = .ok (.iload 4, 2) := by decide +kernel
theorem dX4_doAct_135 : decode cX4_doAct 135 = .ok (.aload_n 1, 1) := by decide +kernel
theorem dX4_doAct_136 : decode cX4_doAct 136 = .ok (.iload_n 2, 1) := by decide +kernel
theorem dX4_doAct_137 : decode cX4_doAct 137 = .ok (.invokevirtual 170, 3) := by decide +kernel
theorem dX4_doAct_140 : decode cX4_doAct 140 = .ok (.invokevirtual 173, 3) := by decide +kernel
theorem dX4_doAct_143 : decode cX4_doAct 143 = .ok (.ireturn, 1) := by decide +kernel
theorem dX4_doAct_144 : decode cX4_doAct 144 = .ok (.iload_n 3, 1) := by decide +kernel
theorem dX4_doAct_145 : decode cX4_doAct 145 = .ok (.ireturn, 1) := by decide +kernel
theorem dX4_doAct_146 : decode cX4_doAct 146 = .ok (.aload_n 0, 1) := by decide +kernel
theorem dX4_doAct_147 : decode cX4_doAct 147 = .ok (.iload_n 3, 1) := by decide +kernel
theorem dX4_doAct_148 : decode cX4_doAct 148 = .ok (.invokevirtual 177, 3) := by decide +kernel
theorem dX4_doAct_151 : decode cX4_doAct 151 = .ok (.ireturn, 1) := by decide +kernel
theorem dX4_doAct_152 : decode cX4_doAct 152 = .ok (.iconst 0, 1) := by decide +kernel
theorem dX4_doAct_153 : decode cX4_doAct 153 = .ok (.ireturn, 1) := by decide +kernel
set_option maxRecDepth 20000 in
theorem ggX4_hold_X3_missing : GoodIn wsX4_hold wsX3_missing := goodIn_r _ [8, 9, 10, 11, 12, 46, 47, 48, 49] (by decide +kernel) (by decide +kernel)
set_option maxRecDepth 20000 in
theorem gX4_hold_X3_missing : GoodIn wsX4_hold (wsV RX4 180 RX3 yX3_missing wsX3_missing) := goodIn_app (goodIn_of _ (by decide +kernel)) ggX4_hold_X3_missing
set_option maxRecDepth 20000 in
theorem ggX4_hold_X3_holdOnce : GoodIn wsX4_hold wsX3_holdOnce := goodIn_r _ [16, 17, 10, 11, 12, 46, 47, 48, 49] (by decide +kernel) (by decide +kernel)
set_option maxRecDepth 20000 in
theorem gX4_hold_X3_holdOnce : GoodIn wsX4_hold (wsV RX4 183 RX3 yX3_holdOnce wsX3_holdOnce) := goodIn_app (goodIn_of _ (by decide +kernel)) ggX4_hold_X3_holdOnce
set_option maxRecDepth 20000 in
theorem ggX4_hold_X2_openHold : GoodIn wsX4_hold wsX2_openHold := goodIn_r _ [22, 23, 24, 25, 26, 27, 28, 29, 50, 51, 52, 53, 54, 55, 56, 57, 58, 59] (by decide +kernel) (by decide +kernel)
set_option maxRecDepth 20000 in
theorem gX4_hold_X2_openHold : GoodIn wsX4_hold (wsV RX4 187 RX2 yX2_openHold wsX2_openHold) := goodIn_app (goodIn_of _ (by decide +kernel)) ggX4_hold_X2_openHold
set_option maxRecDepth 20000 in
theorem ggX4_hold_X0_push : GoodIn wsX4_hold wsX0_push := goodIn_r _ [34, 35, 36, 37, 38, 60, 61, 62, 63] (by decide +kernel) (by decide +kernel)
set_option maxRecDepth 20000 in
theorem gX4_hold_X0_push : GoodIn wsX4_hold (wsV RX4 155 RX0 yX0_push wsX0_push) := goodIn_app (goodIn_of _ (by decide +kernel)) ggX4_hold_X0_push
theorem dX4_hold_0 : decode cX4_hold 0 = .ok (.aload_n 0, 1) := by decide +kernel
theorem dX4_hold_1 : decode cX4_hold 1 = .ok (.getfield 19, 3) := by decide +kernel
theorem dX4_hold_4 : decode cX4_hold 4 = .ok (.iload_n 1, 1) := by decide +kernel
theorem dX4_hold_5 : decode cX4_hold 5 = .ok (.invokevirtual 180, 3) := by decide +kernel
theorem dX4_hold_8 : decode cX4_hold 8 = .ok (.istore_n 2, 1) := by decide +kernel
theorem dX4_hold_9 : decode cX4_hold 9 = .ok (.iload_n 2, 1) := by decide +kernel
theorem dX4_hold_10 : decode cX4_hold 10 = .ok (.ifCond .eq 5, 3) := by decide +kernel
theorem dX4_hold_13 : decode cX4_hold 13 = .ok (.iload_n 2, 1) := by decide +kernel
theorem dX4_hold_14 : decode cX4_hold 14 = .ok (.ireturn, 1) := by decide +kernel
theorem dX4_hold_15 : decode cX4_hold 15 = .ok (.aload_n 0, 1) := by decide +kernel
theorem dX4_hold_16 : decode cX4_hold 16 = .ok (.getfield 19, 3) := by decide +kernel
theorem dX4_hold_19 : decode cX4_hold 19 = .ok (.iload_n 1, 1) := by decide +kernel
theorem dX4_hold_20 : decode cX4_hold 20 = .ok (.invokevirtual 183, 3) := by decide +kernel
theorem dX4_hold_23 : decode cX4_hold 23 = .ok (.aload_n 0, 1) := by decide +kernel
theorem dX4_hold_24 : decode cX4_hold 24 = .ok (.getfield 33, 3) := by decide +kernel
theorem dX4_hold_27 : decode cX4_hold 27 = .ok (.invokevirtual 187, 3) := by decide +kernel
theorem dX4_hold_30 : decode cX4_hold 30 = .ok (.aload_n 0, 1) := by decide +kernel
theorem dX4_hold_31 : decode cX4_hold 31 = .ok (.getfield 26, 3) := by decide +kernel
theorem dX4_hold_34 : decode cX4_hold 34 = .ok (.iconst 0, 1) := by decide +kernel
theorem dX4_hold_35 : decode cX4_hold 35 = .ok (.iload_n 1, 1) := by decide +kernel
theorem dX4_hold_36 : decode cX4_hold 36 = .ok (.iconst 0, 1) := by decide +kernel
theorem dX4_hold_37 : decode cX4_hold 37 = .ok (.invokevirtual 155, 3) := by decide +kernel
theorem dX4_hold_40 : decode cX4_hold 40 = .ok (.iconst 0, 1) := by decide +kernel
theorem dX4_hold_41 : decode cX4_hold 41 = .ok (.ireturn, 1) := by decide +kernel
set_option maxRecDepth 20000 in
theorem ggX4_endBlock_X0_kind : GoodIn wsX4_endBlock wsX0_kind := goodIn_r _ [8, 9, 10, 42, 43, 44, 45] (by decide +kernel) (by decide +kernel)
set_option maxRecDepth 20000 in
theorem gX4_endBlock_X0_kind : GoodIn wsX4_endBlock (wsV RX4 190 RX0 yX0_kind wsX0_kind) := goodIn_app (goodIn_of _ (by decide +kernel)) ggX4_endBlock_X0_kind
set_option maxRecDepth 20000 in
theorem ggX4_endBlock_X2_closeHold : GoodIn wsX4_endBlock wsX2_closeHold := goodIn_r _ [15, 16, 46, 47, 48, 49, 50, 51, 52, 53, 54, 55] (by decide +kernel) (by decide +kernel)
set_option maxRecDepth 20000 in
theorem gX4_endBlock_X2_closeHold : GoodIn wsX4_endBlock (wsV RX4 193 RX2 yX2_closeHold wsX2_closeHold) := goodIn_app (goodIn_of _ (by decide +kernel)) ggX4_endBlock_X2_closeHold
set_option maxRecDepth 20000 in
theorem ggX4_endBlock_X0_number : GoodIn wsX4_endBlock wsX0_number := goodIn_r _ [20, 9, 21, 42, 43, 44, 45] (by decide +kernel) (by decide +kernel)
set_option maxRecDepth 20000 in
theorem gX4_endBlock_X0_number : GoodIn wsX4_endBlock (wsV RX4 196 RX0 yX0_number wsX0_number) := goodIn_app (goodIn_of _ (by decide +kernel)) ggX4_endBlock_X0_number
set_option maxRecDepth 20000 in
theorem ggX4_endBlock_X3_release : GoodIn wsX4_endBlock wsX3_release := goodIn_r _ [26, 27, 28, 29, 30, 56, 57, 58, 59] (by decide +kernel) (by decide +kernel)
set_option maxRecDepth 20000 in
theorem gX4_endBlock_X3_release : GoodIn wsX4_endBlock (wsV RX4 198 RX3 yX3_release wsX3_release) := goodIn_app (goodIn_of _ (by decide +kernel)) ggX4_endBlock_X3_release
set_option maxRecDepth 20000 in
theorem ggX4_endBlock_X0_pop : GoodIn wsX4_endBlock wsX0_pop := goodIn_r _ [34, 9, 42, 43, 44, 45] (by decide +kernel) (by decide +kernel)
set_option maxRecDepth 20000 in
theorem gX4_endBlock_X0_pop : GoodIn wsX4_endBlock (wsV RX4 201 RX0 yX0_pop wsX0_pop) := goodIn_app (goodIn_of _ (by decide +kernel)) ggX4_endBlock_X0_pop
theorem dX4_endBlock_0 : decode cX4_endBlock 0 = .ok (.aload_n 0, 1) := by decide +kernel
theorem dX4_endBlock_1 : decode cX4_endBlock 1 = .ok (.getfield 26, 3) := by decide +kernel
theorem dX4_endBlock_4 : decode cX4_endBlock 4 = .ok (.invokevirtual 190, 3) := by decide +kernel
theorem dX4_endBlock_7 : decode cX4_endBlock 7 = .ok (.ifCond .ne 24, 3) := by decide +kernel
theorem dX4_endBlock_10 : decode cX4_endBlock 10 = .ok (.aload_n 0, 1) := by decide +kernel
theorem dX4_endBlock_11 : decode cX4_endBlock 11 = .ok (.getfield 33, 3) := by decide +kernel
theorem dX4_endBlock_14 : decode cX4_endBlock 14 = .ok (.invokevirtual 193, 3) := by decide +kernel
theorem dX4_endBlock_17 : decode cX4_endBlock 17 = .ok (.aload_n 0, 1) := by decide +kernel
theorem dX4_endBlock_18 : decode cX4_endBlock 18 = .ok (.getfield 19, 3) := by decide +kernel
theorem dX4_endBlock_21 : decode cX4_endBlock 21 = .ok (.aload_n 0, 1) := by decide +kernel
theorem dX4_endBlock_22 : decode cX4_endBlock 22 = .ok (.getfield 26, 3) := by decide +kernel
theorem dX4_endBlock_25 : decode cX4_endBlock 25 = .ok (.invokevirtual 196, 3) := by decide +kernel
theorem dX4_endBlock_28 : decode cX4_endBlock 28 = .ok (.invokevirtual 198, 3) := by decide +kernel
theorem dX4_endBlock_31 : decode cX4_endBlock 31 = .ok (.aload_n 0, 1) := by decide +kernel
theorem dX4_endBlock_32 : decode cX4_endBlock 32 = .ok (.getfield 26, 3) := by decide +kernel
theorem dX4_endBlock_35 : decode cX4_endBlock 35 = .ok (.invokevirtual 201, 3) := by decide +kernel
theorem dX4_endBlock_38 : decode cX4_endBlock 38 = .ok (.iconst 0, 1) := by decide +kernel
theorem dX4_endBlock_39 : decode cX4_endBlock 39 = .ok (.ireturn, 1) := by decide +kernel
set_option maxRecDepth 20000 in
theorem ggX4_call_X4_isPlan : GoodIn wsX4_call wsX4_isPlan := goodIn_r _ [10] (by decide +kernel) (by decide +kernel)
set_option maxRecDepth 20000 in
theorem gX4_call_X4_isPlan : GoodIn wsX4_call (va_wsS RX4 37 yX4_isPlan wsX4_isPlan) := goodIn_app (goodIn_of _ (by decide +kernel)) ggX4_call_X4_isPlan
set_option maxRecDepth 20000 in
theorem ggX4_call_X1_isClosed : GoodIn wsX4_call wsX1_isClosed := goodIn_r _ [15, 16, 17, 18, 19, 14, 20, 21, 22, 23, 24, 25, 48, 49] (by decide +kernel) (by decide +kernel)
set_option maxRecDepth 20000 in
theorem gX4_call_X1_isClosed : GoodIn wsX4_call (wsV RX4 56 RX1 yX1_isClosed wsX1_isClosed) := goodIn_app (goodIn_of _ (by decide +kernel)) ggX4_call_X1_isClosed
set_option maxRecDepth 20000 in
theorem ggX4_call_X2_countCall : GoodIn wsX4_call wsX2_countCall := goodIn_r _ [30, 31, 50, 51, 52, 53, 54, 55, 56, 57, 58, 59] (by decide +kernel) (by decide +kernel)
set_option maxRecDepth 20000 in
theorem gX4_call_X2_countCall : GoodIn wsX4_call (wsV RX4 204 RX2 yX2_countCall wsX2_countCall) := goodIn_app (goodIn_of _ (by decide +kernel)) ggX4_call_X2_countCall
set_option maxRecDepth 20000 in
theorem ggX4_call_X0_push : GoodIn wsX4_call wsX0_push := goodIn_r _ [36, 37, 38, 39, 40, 60, 61, 62, 63] (by decide +kernel) (by decide +kernel)
set_option maxRecDepth 20000 in
theorem gX4_call_X0_push : GoodIn wsX4_call (wsV RX4 155 RX0 yX0_push wsX0_push) := goodIn_app (goodIn_of _ (by decide +kernel)) ggX4_call_X0_push
theorem dX4_call_0 : decode cX4_call 0 = .ok (.iload_n 1, 1) := by decide +kernel
theorem dX4_call_1 : decode cX4_call 1 = .ok (.invokestatic 37, 3) := by decide +kernel
theorem dX4_call_4 : decode cX4_call 4 = .ok (.ifCond .eq 23, 3) := by decide +kernel
theorem dX4_call_7 : decode cX4_call 7 = .ok (.aload_n 0, 1) := by decide +kernel
theorem dX4_call_8 : decode cX4_call 8 = .ok (.getfield 77, 3) := by decide +kernel
theorem dX4_call_11 : decode cX4_call 11 = .ok (.iconst 5, 1) := by decide +kernel
theorem dX4_call_12 : decode cX4_call 12 = .ok (.if_icmp .ge 15, 3) := by decide +kernel
theorem dX4_call_15 : decode cX4_call 15 = .ok (.aload_n 0, 1) := by decide +kernel
theorem dX4_call_16 : decode cX4_call 16 = .ok (.getfield 11, 3) := by decide +kernel
theorem dX4_call_19 : decode cX4_call 19 = .ok (.iload_n 1, 1) := by decide +kernel
theorem dX4_call_20 : decode cX4_call 20 = .ok (.aaload, 1) := by decide +kernel
theorem dX4_call_21 : decode cX4_call 21 = .ok (.invokevirtual 56, 3) := by decide +kernel
theorem dX4_call_24 : decode cX4_call 24 = .ok (.ifCond .ne 6, 3) := by decide +kernel
theorem dX4_call_27 : decode cX4_call 27 = .ok (.bipush 6, 2) := by decide +kernel
theorem dX4_call_29 : decode cX4_call 29 = .ok (.ireturn, 1) := by decide +kernel
theorem dX4_call_30 : decode cX4_call 30 = .ok (.aload_n 0, 1) := by decide +kernel
theorem dX4_call_31 : decode cX4_call 31 = .ok (.getfield 33, 3) := by decide +kernel
theorem dX4_call_34 : decode cX4_call 34 = .ok (.invokevirtual 204, 3) := by decide +kernel
theorem dX4_call_37 : decode cX4_call 37 = .ok (.aload_n 0, 1) := by decide +kernel
theorem dX4_call_38 : decode cX4_call 38 = .ok (.getfield 26, 3) := by decide +kernel
theorem dX4_call_41 : decode cX4_call 41 = .ok (.bipush 8, 2) := by decide +kernel
theorem dX4_call_43 : decode cX4_call 43 = .ok (.aload_n 0, 1) := by decide +kernel
theorem dX4_call_44 : decode cX4_call 44 = .ok (.getfield 70, 3) := by decide +kernel
theorem dX4_call_47 : decode cX4_call 47 = .ok (.aload_n 0, 1) := by decide +kernel
theorem dX4_call_48 : decode cX4_call 48 = .ok (.getfield 74, 3) := by decide +kernel
theorem dX4_call_51 : decode cX4_call 51 = .ok (.invokevirtual 155, 3) := by decide +kernel
theorem dX4_call_54 : decode cX4_call 54 = .ok (.aload_n 0, 1) := by decide +kernel
theorem dX4_call_55 : decode cX4_call 55 = .ok (.iload_n 1, 1) := by decide +kernel
theorem dX4_call_56 : decode cX4_call 56 = .ok (.putfield 70, 3) := by decide +kernel
theorem dX4_call_59 : decode cX4_call 59 = .ok (.aload_n 0, 1) := by decide +kernel
theorem dX4_call_60 : decode cX4_call 60 = .ok (.iconst 0, 1) := by decide +kernel
theorem dX4_call_61 : decode cX4_call 61 = .ok (.putfield 74, 3) := by decide +kernel
theorem dX4_call_64 : decode cX4_call 64 = .ok (.aload_n 0, 1) := by decide +kernel
theorem dX4_call_65 : decode cX4_call 65 = .ok (.dup, 1) := by decide +kernel
theorem dX4_call_66 : decode cX4_call 66 = .ok (.getfield 77, 3) := by decide +kernel
theorem dX4_call_69 : decode cX4_call 69 = .ok (.iconst 1, 1) := by decide +kernel
theorem dX4_call_70 : decode cX4_call 70 = .ok (.iadd, 1) := by decide +kernel
theorem dX4_call_71 : decode cX4_call 71 = .ok (.putfield 77, 3) := by decide +kernel
theorem dX4_call_74 : decode cX4_call 74 = .ok (.iconst 0, 1) := by decide +kernel
theorem dX4_call_75 : decode cX4_call 75 = .ok (.ireturn, 1) := by decide +kernel
set_option maxRecDepth 20000 in
theorem ggX4_leaveCall_X0_number : GoodIn wsX4_leaveCall wsX0_number := goodIn_r _ [9, 10, 11, 28, 29, 30, 31] (by decide +kernel) (by decide +kernel)
set_option maxRecDepth 20000 in
theorem gX4_leaveCall_X0_number : GoodIn wsX4_leaveCall (wsV RX4 196 RX0 yX0_number wsX0_number) := goodIn_app (goodIn_of _ (by decide +kernel)) ggX4_leaveCall_X0_number
set_option maxRecDepth 20000 in
theorem ggX4_leaveCall_X0_behind : GoodIn wsX4_leaveCall wsX0_behind := goodIn_r _ [15, 10, 16, 28, 29, 30, 31] (by decide +kernel) (by decide +kernel)
set_option maxRecDepth 20000 in
theorem gX4_leaveCall_X0_behind : GoodIn wsX4_leaveCall (wsV RX4 207 RX0 yX0_behind wsX0_behind) := goodIn_app (goodIn_of _ (by decide +kernel)) ggX4_leaveCall_X0_behind
set_option maxRecDepth 20000 in
theorem ggX4_leaveCall_X0_pop : GoodIn wsX4_leaveCall wsX0_pop := goodIn_r _ [20, 10, 28, 29, 30, 31] (by decide +kernel) (by decide +kernel)
set_option maxRecDepth 20000 in
theorem gX4_leaveCall_X0_pop : GoodIn wsX4_leaveCall (wsV RX4 201 RX0 yX0_pop wsX0_pop) := goodIn_app (goodIn_of _ (by decide +kernel)) ggX4_leaveCall_X0_pop
theorem dX4_leaveCall_0 : decode cX4_leaveCall 0 = .ok (.aload_n 0, 1) := by decide +kernel
theorem dX4_leaveCall_1 : decode cX4_leaveCall 1 = .ok (.aload_n 0, 1) := by decide +kernel
theorem dX4_leaveCall_2 : decode cX4_leaveCall 2 = .ok (.getfield 26, 3) := by decide +kernel
theorem dX4_leaveCall_5 : decode cX4_leaveCall 5 = .ok (.invokevirtual 196, 3) := by decide +kernel
theorem dX4_leaveCall_8 : decode cX4_leaveCall 8 = .ok (.putfield 70, 3) := by decide +kernel
theorem dX4_leaveCall_11 : decode cX4_leaveCall 11 = .ok (.aload_n 0, 1) := by decide +kernel
theorem dX4_leaveCall_12 : decode cX4_leaveCall 12 = .ok (.aload_n 0, 1) := by decide +kernel
theorem dX4_leaveCall_13 : decode cX4_leaveCall 13 = .ok (.getfield 26, 3) := by decide +kernel
theorem dX4_leaveCall_16 : decode cX4_leaveCall 16 = .ok (.invokevirtual 207, 3) := by decide +kernel
theorem dX4_leaveCall_19 : decode cX4_leaveCall 19 = .ok (.putfield 74, 3) := by decide +kernel
theorem dX4_leaveCall_22 : decode cX4_leaveCall 22 = .ok (.aload_n 0, 1) := by decide +kernel
theorem dX4_leaveCall_23 : decode cX4_leaveCall 23 = .ok (.dup, 1) := by decide +kernel
theorem dX4_leaveCall_24 : decode cX4_leaveCall 24 = .ok (.getfield 77, 3) := by decide +kernel
theorem dX4_leaveCall_27 : decode cX4_leaveCall 27 = .ok (.iconst 1, 1) := by decide +kernel
theorem dX4_leaveCall_28 : decode cX4_leaveCall 28 = .ok (.isub, 1) := by decide +kernel
theorem dX4_leaveCall_29 : decode cX4_leaveCall 29 = .ok (.putfield 77, 3) := by decide +kernel
theorem dX4_leaveCall_32 : decode cX4_leaveCall 32 = .ok (.aload_n 0, 1) := by decide +kernel
theorem dX4_leaveCall_33 : decode cX4_leaveCall 33 = .ok (.getfield 26, 3) := by decide +kernel
theorem dX4_leaveCall_36 : decode cX4_leaveCall 36 = .ok (.invokevirtual 201, 3) := by decide +kernel
theorem dX4_leaveCall_39 : decode cX4_leaveCall 39 = .ok (.return_, 1) := by decide +kernel
set_option maxRecDepth 20000 in
theorem ggX4_leaveOpen_X0_size : GoodIn wsX4_leaveOpen wsX0_size := goodIn_r _ [6, 7, 81, 82, 83, 84] (by decide +kernel) (by decide +kernel)
set_option maxRecDepth 20000 in
theorem gX4_leaveOpen_X0_size : GoodIn wsX4_leaveOpen (wsV RX4 210 RX0 yX0_size wsX0_size) := goodIn_app (goodIn_of _ (by decide +kernel)) ggX4_leaveOpen_X0_size
set_option maxRecDepth 20000 in
theorem ggX4_leaveOpen_X0_kind : GoodIn wsX4_leaveOpen wsX0_kind := goodIn_r _ [11, 7, 12, 81, 82, 83, 84] (by decide +kernel) (by decide +kernel)
set_option maxRecDepth 20000 in
theorem gX4_leaveOpen_X0_kind : GoodIn wsX4_leaveOpen (wsV RX4 190 RX0 yX0_kind wsX0_kind) := goodIn_app (goodIn_of _ (by decide +kernel)) ggX4_leaveOpen_X0_kind
set_option maxRecDepth 20000 in
theorem ggX4_leaveOpen_X4_leaveCall : GoodIn wsX4_leaveOpen wsX4_leaveCall := goodIn_r _ [17, 1, 18, 19, 20, 21, 22, 23, 5, 24, 7, 25, 26, 27, 28, 29, 30, 31, 32, 33, 34, 74, 75, 76, 77, 78, 79, 80, 81, 82, 83, 84] (by decide +kernel) (by decide +kernel)
set_option maxRecDepth 20000 in
theorem gX4_leaveOpen_X4_leaveCall : GoodIn wsX4_leaveOpen (wsV RX4 114 RX4 yX4_leaveCall wsX4_leaveCall) := goodIn_app (goodIn_of _ (by decide +kernel)) ggX4_leaveOpen_X4_leaveCall
set_option maxRecDepth 20000 in
theorem ggX4_leaveOpen_X4_leaveHold : GoodIn wsX4_leaveOpen wsX4_leaveHold := goodIn_r _ [38, 39, 1, 21, 22, 23, 5, 24, 7, 25, 40, 41, 42, 43, 44, 45, 46, 16, 47, 48, 49, 50, 51, 52, 8, 9, 10, 11, 12, 53, 54, 55, 56, 57, 58, 59, 60, 61, 62, 63, 31, 32, 33, 34, 74, 75, 76, 77, 78, 79, 80, 81, 82, 83, 84, 85, 86, 87, 88, 89, 90, 91, 92, 93, 94, 95, 96, 97, 98] (by decide +kernel) (by decide +kernel)
set_option maxRecDepth 20000 in
theorem gX4_leaveOpen_X4_leaveHold : GoodIn wsX4_leaveOpen (wsV RX4 211 RX4 yX4_leaveHold wsX4_leaveHold) := goodIn_app (goodIn_of _ (by decide +kernel)) ggX4_leaveOpen_X4_leaveHold
set_option maxRecDepth 20000 in
theorem ggX4_leaveOpen_X4_leaveGuard : GoodIn wsX4_leaveOpen wsX4_leaveGuard := goodIn_r _ [67, 1, 52, 19, 21, 22, 23, 5, 24, 7, 25, 26, 27, 28, 29, 30, 31, 32, 33, 34, 68, 69, 70, 56, 71, 72, 73, 74, 75, 76, 77, 78, 79, 80, 81, 82, 83, 84, 89, 90, 91, 92, 93, 94, 95, 96, 97, 98] (by decide +kernel) (by decide +kernel)
set_option maxRecDepth 20000 in
theorem gX4_leaveOpen_X4_leaveGuard : GoodIn wsX4_leaveOpen (wsV RX4 214 RX4 yX4_leaveGuard wsX4_leaveGuard) := goodIn_app (goodIn_of _ (by decide +kernel)) ggX4_leaveOpen_X4_leaveGuard
theorem dX4_leaveOpen_0 : decode cX4_leaveOpen 0 = .ok (.aload_n 0, 1) := by decide +kernel
theorem dX4_leaveOpen_1 : decode cX4_leaveOpen 1 = .ok (.getfield 26, 3) := by decide +kernel
theorem dX4_leaveOpen_4 : decode cX4_leaveOpen 4 = .ok (.invokevirtual 210, 3) := by decide +kernel
theorem dX4_leaveOpen_7 : decode cX4_leaveOpen 7 = .ok (.istore_n 2, 1) := by decide +kernel
theorem dX4_leaveOpen_8 : decode cX4_leaveOpen 8 = .ok (.iload_n 2, 1) := by decide +kernel
theorem dX4_leaveOpen_9 : decode cX4_leaveOpen 9 = .ok (.ifCond .le 51, 3) := by decide +kernel
theorem dX4_leaveOpen_12 : decode cX4_leaveOpen 12 = .ok (.aload_n 0, 1) := by decide +kernel
theorem dX4_leaveOpen_13 : decode cX4_leaveOpen 13 = .ok (.getfield 26, 3) := by decide +kernel
theorem dX4_leaveOpen_16 : decode cX4_leaveOpen 16 = .ok (.invokevirtual 190, 3) := by decide +kernel
theorem dX4_leaveOpen_19 : decode cX4_leaveOpen 19 = .ok (.istore_n 3, 1) := by decide +kernel
theorem dX4_leaveOpen_20 : decode cX4_leaveOpen 20 = .ok (.iload_n 3, 1) := by decide +kernel
theorem dX4_leaveOpen_21 : decode cX4_leaveOpen 21 = .ok (.bipush 8, 2) := by decide +kernel
theorem dX4_leaveOpen_23 : decode cX4_leaveOpen 23 = .ok (.if_icmp .ne 10, 3) := by decide +kernel
theorem dX4_leaveOpen_26 : decode cX4_leaveOpen 26 = .ok (.aload_n 0, 1) := by decide +kernel
theorem dX4_leaveOpen_27 : decode cX4_leaveOpen 27 = .ok (.invokevirtual 114, 3) := by decide +kernel
theorem dX4_leaveOpen_30 : decode cX4_leaveOpen 30 = .ok (.goto 24, 3) := by decide +kernel
theorem dX4_leaveOpen_33 : decode cX4_leaveOpen 33 = .ok (.iload_n 3, 1) := by decide +kernel
theorem dX4_leaveOpen_34 : decode cX4_leaveOpen 34 = .ok (.ifCond .ne 10, 3) := by decide +kernel
theorem dX4_leaveOpen_37 : decode cX4_leaveOpen 37 = .ok (.aload_n 0, 1) := by decide +kernel
theorem dX4_leaveOpen_38 : decode cX4_leaveOpen 38 = .ok (.invokevirtual 211, 3) := by decide +kernel
theorem dX4_leaveOpen_41 : decode cX4_leaveOpen 41 = .ok (.goto 13, 3) := by decide +kernel
theorem dX4_leaveOpen_44 : decode cX4_leaveOpen 44 = .ok (.aload_n 0, 1) := by decide +kernel
theorem dX4_leaveOpen_45 : decode cX4_leaveOpen 45 = .ok (.iload_n 1, 1) := by decide +kernel
theorem dX4_leaveOpen_46 : decode cX4_leaveOpen 46 = .ok (.invokevirtual 214, 3) := by decide +kernel
theorem dX4_leaveOpen_49 : decode cX4_leaveOpen 49 = .ok (.ifCond .eq 5, 3) := by decide +kernel
theorem dX4_leaveOpen_52 : decode cX4_leaveOpen 52 = .ok (.iconst 1, 1) := by decide +kernel
theorem dX4_leaveOpen_53 : decode cX4_leaveOpen 53 = .ok (.ireturn, 1) := by decide +kernel
theorem dX4_leaveOpen_54 : decode cX4_leaveOpen 54 = .ok (.iinc 2 (-1), 3) := by decide +kernel
theorem dX4_leaveOpen_57 : decode cX4_leaveOpen 57 = .ok (.goto (-49), 3) := by decide +kernel
theorem dX4_leaveOpen_60 : decode cX4_leaveOpen 60 = .ok (.iconst 0, 1) := by decide +kernel
theorem dX4_leaveOpen_61 : decode cX4_leaveOpen 61 = .ok (.ireturn, 1) := by decide +kernel
set_option maxRecDepth 20000 in
theorem ggX4_leaveHold_X0_number : GoodIn wsX4_leaveHold wsX0_number := goodIn_r _ [7, 8, 9, 51, 52, 53, 54] (by decide +kernel) (by decide +kernel)
set_option maxRecDepth 20000 in
theorem gX4_leaveHold_X0_number : GoodIn wsX4_leaveHold (wsV RX4 196 RX0 yX0_number wsX0_number) := goodIn_app (goodIn_of _ (by decide +kernel)) ggX4_leaveHold_X0_number
set_option maxRecDepth 20000 in
theorem ggX4_leaveHold_X3_countLeft : GoodIn wsX4_leaveHold wsX3_countLeft := goodIn_r _ [14, 15, 16, 17, 18, 55, 56, 57, 58] (by decide +kernel) (by decide +kernel)
set_option maxRecDepth 20000 in
theorem gX4_leaveHold_X3_countLeft : GoodIn wsX4_leaveHold (wsV RX4 217 RX3 yX3_countLeft wsX3_countLeft) := goodIn_app (goodIn_of _ (by decide +kernel)) ggX4_leaveHold_X3_countLeft
set_option maxRecDepth 20000 in
theorem ggX4_leaveHold_X4_endBlock : GoodIn wsX4_leaveHold wsX4_endBlock := goodIn_r _ [22, 2, 23, 1, 24, 25, 26, 6, 27, 8, 28, 29, 30, 31, 32, 33, 34, 3, 4, 5, 7, 9, 35, 36, 37, 13, 38, 39, 16, 17, 18, 40, 41, 42, 43, 44, 45, 46, 47, 48, 49, 50, 51, 52, 53, 54, 59, 60, 61, 62, 63, 64, 65, 66, 67, 68, 55, 56, 57, 58] (by decide +kernel) (by decide +kernel)
set_option maxRecDepth 20000 in
theorem gX4_leaveHold_X4_endBlock : GoodIn wsX4_leaveHold (wsV RX4 158 RX4 yX4_endBlock wsX4_endBlock) := goodIn_app (goodIn_of _ (by decide +kernel)) ggX4_leaveHold_X4_endBlock
theorem dX4_leaveHold_0 : decode cX4_leaveHold 0 = .ok (.aload_n 0, 1) := by decide +kernel
theorem dX4_leaveHold_1 : decode cX4_leaveHold 1 = .ok (.getfield 19, 3) := by decide +kernel
theorem dX4_leaveHold_4 : decode cX4_leaveHold 4 = .ok (.aload_n 0, 1) := by decide +kernel
theorem dX4_leaveHold_5 : decode cX4_leaveHold 5 = .ok (.getfield 26, 3) := by decide +kernel
theorem dX4_leaveHold_8 : decode cX4_leaveHold 8 = .ok (.invokevirtual 196, 3) := by decide +kernel
theorem dX4_leaveHold_11 : decode cX4_leaveHold 11 = .ok (.invokevirtual 217, 3) := by decide +kernel
theorem dX4_leaveHold_14 : decode cX4_leaveHold 14 = .ok (.aload_n 0, 1) := by decide +kernel
theorem dX4_leaveHold_15 : decode cX4_leaveHold 15 = .ok (.invokevirtual 158, 3) := by decide +kernel
theorem dX4_leaveHold_18 : decode cX4_leaveHold 18 = .ok (.pop, 1) := by decide +kernel
theorem dX4_leaveHold_19 : decode cX4_leaveHold 19 = .ok (.return_, 1) := by decide +kernel
set_option maxRecDepth 20000 in
theorem ggX4_leaveGuard_X0_number : GoodIn wsX4_leaveGuard wsX0_number := goodIn_r _ [8, 9, 10, 34, 35, 36, 37] (by decide +kernel) (by decide +kernel)
set_option maxRecDepth 20000 in
theorem gX4_leaveGuard_X0_number : GoodIn wsX4_leaveGuard (wsV RX4 196 RX0 yX0_number wsX0_number) := goodIn_app (goodIn_of _ (by decide +kernel)) ggX4_leaveGuard_X0_number
set_option maxRecDepth 20000 in
theorem ggX4_leaveGuard_X0_behind : GoodIn wsX4_leaveGuard wsX0_behind := goodIn_r _ [14, 9, 15, 34, 35, 36, 37] (by decide +kernel) (by decide +kernel)
set_option maxRecDepth 20000 in
theorem gX4_leaveGuard_X0_behind : GoodIn wsX4_leaveGuard (wsV RX4 207 RX0 yX0_behind wsX0_behind) := goodIn_app (goodIn_of _ (by decide +kernel)) ggX4_leaveGuard_X0_behind
set_option maxRecDepth 20000 in
theorem ggX4_leaveGuard_X0_pop : GoodIn wsX4_leaveGuard wsX0_pop := goodIn_r _ [19, 9, 34, 35, 36, 37] (by decide +kernel) (by decide +kernel)
set_option maxRecDepth 20000 in
theorem gX4_leaveGuard_X0_pop : GoodIn wsX4_leaveGuard (wsV RX4 201 RX0 yX0_pop wsX0_pop) := goodIn_app (goodIn_of _ (by decide +kernel)) ggX4_leaveGuard_X0_pop
set_option maxRecDepth 20000 in
theorem ggX4_leaveGuard_X2_countCaught : GoodIn wsX4_leaveGuard wsX2_countCaught := goodIn_r _ [24, 25, 26, 38, 39, 40, 41, 42, 43, 44, 45, 46, 47] (by decide +kernel) (by decide +kernel)
set_option maxRecDepth 20000 in
theorem gX4_leaveGuard_X2_countCaught : GoodIn wsX4_leaveGuard (wsV RX4 220 RX2 yX2_countCaught wsX2_countCaught) := goodIn_app (goodIn_of _ (by decide +kernel)) ggX4_leaveGuard_X2_countCaught
theorem dX4_leaveGuard_0 : decode cX4_leaveGuard 0 = .ok (.aload_n 0, 1) := by decide +kernel
theorem dX4_leaveGuard_1 : decode cX4_leaveGuard 1 = .ok (.getfield 26, 3) := by decide +kernel
theorem dX4_leaveGuard_4 : decode cX4_leaveGuard 4 = .ok (.invokevirtual 196, 3) := by decide +kernel
theorem dX4_leaveGuard_7 : decode cX4_leaveGuard 7 = .ok (.istore_n 2, 1) := by decide +kernel
theorem dX4_leaveGuard_8 : decode cX4_leaveGuard 8 = .ok (.aload_n 0, 1) := by decide +kernel
theorem dX4_leaveGuard_9 : decode cX4_leaveGuard 9 = .ok (.getfield 26, 3) := by decide +kernel
theorem dX4_leaveGuard_12 : decode cX4_leaveGuard 12 = .ok (.invokevirtual 207, 3) := by decide +kernel
theorem dX4_leaveGuard_15 : decode cX4_leaveGuard 15 = .ok (.istore_n 3, 1) := by decide +kernel
theorem dX4_leaveGuard_16 : decode cX4_leaveGuard 16 = .ok (.aload_n 0, 1) := by decide +kernel
theorem dX4_leaveGuard_17 : decode cX4_leaveGuard 17 = .ok (.getfield 26, 3) := by decide +kernel
theorem dX4_leaveGuard_20 : decode cX4_leaveGuard 20 = .ok (.invokevirtual 201, 3) := by decide +kernel
theorem dX4_leaveGuard_23 : decode cX4_leaveGuard 23 = .ok (.iload_n 1, 1) := by decide +kernel
theorem dX4_leaveGuard_24 : decode cX4_leaveGuard 24 = .ok (.ifCond .eq 12, 3) := by decide +kernel
theorem dX4_leaveGuard_27 : decode cX4_leaveGuard 27 = .ok (.iload_n 2, 1) := by decide +kernel
theorem dX4_leaveGuard_28 : decode cX4_leaveGuard 28 = .ok (.ifCond .eq 10, 3) := by decide +kernel
theorem dX4_leaveGuard_31 : decode cX4_leaveGuard 31 = .ok (.iload_n 2, 1) := by decide +kernel
theorem dX4_leaveGuard_32 : decode cX4_leaveGuard 32 = .ok (.iload_n 1, 1) := by decide +kernel
theorem dX4_leaveGuard_33 : decode cX4_leaveGuard 33 = .ok (.if_icmp .eq 5, 3) := by decide +kernel
theorem dX4_leaveGuard_36 : decode cX4_leaveGuard 36 = .ok (.iconst 0, 1) := by decide +kernel
theorem dX4_leaveGuard_37 : decode cX4_leaveGuard 37 = .ok (.ireturn, 1) := by decide +kernel
theorem dX4_leaveGuard_38 : decode cX4_leaveGuard 38 = .ok (.aload_n 0, 1) := by decide +kernel
theorem dX4_leaveGuard_39 : decode cX4_leaveGuard 39 = .ok (.getfield 33, 3) := by decide +kernel
theorem dX4_leaveGuard_42 : decode cX4_leaveGuard 42 = .ok (.iload_n 1, 1) := by decide +kernel
theorem dX4_leaveGuard_43 : decode cX4_leaveGuard 43 = .ok (.invokevirtual 220, 3) := by decide +kernel
theorem dX4_leaveGuard_46 : decode cX4_leaveGuard 46 = .ok (.aload_n 0, 1) := by decide +kernel
theorem dX4_leaveGuard_47 : decode cX4_leaveGuard 47 = .ok (.iload_n 3, 1) := by decide +kernel
theorem dX4_leaveGuard_48 : decode cX4_leaveGuard 48 = .ok (.putfield 74, 3) := by decide +kernel
theorem dX4_leaveGuard_51 : decode cX4_leaveGuard 51 = .ok (.iconst 1, 1) := by decide +kernel
theorem dX4_leaveGuard_52 : decode cX4_leaveGuard 52 = .ok (.ireturn, 1) := by decide +kernel
theorem dX4_isPlan_0 : decode cX4_isPlan 0 = .ok (.iload_n 0, 1) := by decide +kernel
theorem dX4_isPlan_1 : decode cX4_isPlan 1 = .ok (.ifCond .lt 13, 3) := by decide +kernel
theorem dX4_isPlan_4 : decode cX4_isPlan 4 = .ok (.iload_n 0, 1) := by decide +kernel
theorem dX4_isPlan_5 : decode cX4_isPlan 5 = .ok (.bipush 6, 2) := by decide +kernel
theorem dX4_isPlan_7 : decode cX4_isPlan 7 = .ok (.if_icmp .ge 7, 3) := by decide +kernel
theorem dX4_isPlan_10 : decode cX4_isPlan 10 = .ok (.iconst 1, 1) := by decide +kernel
theorem dX4_isPlan_11 : decode cX4_isPlan 11 = .ok (.goto 4, 3) := by decide +kernel
theorem dX4_isPlan_14 : decode cX4_isPlan 14 = .ok (.iconst 0, 1) := by decide +kernel
theorem dX4_isPlan_15 : decode cX4_isPlan 15 = .ok (.ireturn, 1) := by decide +kernel
theorem dX4_isShelf_0 : decode cX4_isShelf 0 = .ok (.iload_n 0, 1) := by decide +kernel
theorem dX4_isShelf_1 : decode cX4_isShelf 1 = .ok (.ifCond .lt 13, 3) := by decide +kernel
theorem dX4_isShelf_4 : decode cX4_isShelf 4 = .ok (.iload_n 0, 1) := by decide +kernel
theorem dX4_isShelf_5 : decode cX4_isShelf 5 = .ok (.bipush 8, 2) := by decide +kernel
theorem dX4_isShelf_7 : decode cX4_isShelf 7 = .ok (.if_icmp .ge 7, 3) := by decide +kernel
theorem dX4_isShelf_10 : decode cX4_isShelf 10 = .ok (.iconst 1, 1) := by decide +kernel
theorem dX4_isShelf_11 : decode cX4_isShelf 11 = .ok (.goto 4, 3) := by decide +kernel
theorem dX4_isShelf_14 : decode cX4_isShelf 14 = .ok (.iconst 0, 1) := by decide +kernel
theorem dX4_isShelf_15 : decode cX4_isShelf 15 = .ok (.ireturn, 1) := by decide +kernel
theorem dX4_isDigit_0 : decode cX4_isDigit 0 = .ok (.iload_n 0, 1) := by decide +kernel
theorem dX4_isDigit_1 : decode cX4_isDigit 1 = .ok (.ifCond .lt 13, 3) := by decide +kernel
theorem dX4_isDigit_4 : decode cX4_isDigit 4 = .ok (.iload_n 0, 1) := by decide +kernel
theorem dX4_isDigit_5 : decode cX4_isDigit 5 = .ok (.bipush 9, 2) := by decide +kernel
theorem dX4_isDigit_7 : decode cX4_isDigit 7 = .ok (.if_icmp .gt 7, 3) := by decide +kernel
theorem dX4_isDigit_10 : decode cX4_isDigit 10 = .ok (.iconst 1, 1) := by decide +kernel
theorem dX4_isDigit_11 : decode cX4_isDigit 11 = .ok (.goto 4, 3) := by decide +kernel
theorem dX4_isDigit_14 : decode cX4_isDigit 14 = .ok (.iconst 0, 1) := by decide +kernel
theorem dX4_isDigit_15 : decode cX4_isDigit 15 = .ok (.ireturn, 1) := by decide +kernel
