theorem dX3_init_0 : decode cX3_init 0 = .ok (.aload_n 0, 1) := by decide +kernel
theorem dX3_init_1 : decode cX3_init 1 = .ok (.invokespecial 3, 3) := by decide +kernel
theorem dX3_init_4 : decode cX3_init 4 = .ok (.aload_n 0, 1) := by decide +kernel
theorem dX3_init_5 : decode cX3_init 5 = .ok (.bipush 8, 2) := by decide +kernel
theorem dX3_init_7 : decode cX3_init 7 = .ok (.newarray .int, 2) := by decide +kernel
theorem dX3_init_9 : decode cX3_init 9 = .ok (.putfield 9, 3) := by decide +kernel
theorem dX3_init_12 : decode cX3_init 12 = .ok (.aload_n 0, 1) := by decide +kernel
theorem dX3_init_13 : decode cX3_init 13 = .ok (.bipush 8, 2) := by decide +kernel
theorem dX3_init_15 : decode cX3_init 15 = .ok (.newarray .int, 2) := by decide +kernel
theorem dX3_init_17 : decode cX3_init 17 = .ok (.putfield 15, 3) := by decide +kernel
theorem dX3_init_20 : decode cX3_init 20 = .ok (.aload_n 0, 1) := by decide +kernel
theorem dX3_init_21 : decode cX3_init 21 = .ok (.bipush 8, 2) := by decide +kernel
theorem dX3_init_23 : decode cX3_init 23 = .ok (.newarray .int, 2) := by decide +kernel
theorem dX3_init_25 : decode cX3_init 25 = .ok (.putfield 18, 3) := by decide +kernel
theorem dX3_init_28 : decode cX3_init 28 = .ok (.iconst 4, 1) := by decide +kernel
theorem dX3_init_29 : decode cX3_init 29 = .ok (.istore_n 1, 1) := by decide +kernel
theorem dX3_init_30 : decode cX3_init 30 = .ok (.iload_n 1, 1) := by decide +kernel
theorem dX3_init_31 : decode cX3_init 31 = .ok (.bipush 8, 2) := by decide +kernel
theorem dX3_init_33 : decode cX3_init 33 = .ok (.if_icmp .ge 16, 3) := by decide +kernel
theorem dX3_init_36 : decode cX3_init 36 = .ok (.aload_n 0, 1) := by decide +kernel
theorem dX3_init_37 : decode cX3_init 37 = .ok (.getfield 9, 3) := by decide +kernel
theorem dX3_init_40 : decode cX3_init 40 = .ok (.iload_n 1, 1) := by decide +kernel
theorem dX3_init_41 : decode cX3_init 41 = .ok (.iconst (-1), 1) := by decide +kernel
theorem dX3_init_42 : decode cX3_init 42 = .ok (.iastore, 1) := by decide +kernel
theorem dX3_init_43 : decode cX3_init 43 = .ok (.iinc 1 1, 3) := by decide +kernel
theorem dX3_init_46 : decode cX3_init 46 = .ok (.goto (-16), 3) := by decide +kernel
theorem dX3_init_49 : decode cX3_init 49 = .ok (.return_, 1) := by decide +kernel
set_option maxRecDepth 20000 in
theorem ggX3_isThere_X4_isShelf : GoodIn wsX3_isThere wsX4_isShelf := goodIn_r _ [4] (by decide +kernel) (by decide +kernel)
set_option maxRecDepth 20000 in
theorem gX3_isThere_X4_isShelf_n21 : GoodIn wsX3_isThere (wsX4_isShelf) := ggX3_isThere_X4_isShelf
theorem dX3_isThere_0 : decode cX3_isThere 0 = .ok (.iload_n 1, 1) := by decide +kernel
theorem dX3_isThere_1 : decode cX3_isThere 1 = .ok (.invokestatic 21, 3) := by decide +kernel
theorem dX3_isThere_4 : decode cX3_isThere 4 = .ok (.ifCond .eq 17, 3) := by decide +kernel
theorem dX3_isThere_7 : decode cX3_isThere 7 = .ok (.aload_n 0, 1) := by decide +kernel
theorem dX3_isThere_8 : decode cX3_isThere 8 = .ok (.getfield 9, 3) := by decide +kernel
theorem dX3_isThere_11 : decode cX3_isThere 11 = .ok (.iload_n 1, 1) := by decide +kernel
theorem dX3_isThere_12 : decode cX3_isThere 12 = .ok (.iaload, 1) := by decide +kernel
theorem dX3_isThere_13 : decode cX3_isThere 13 = .ok (.iconst (-1), 1) := by decide +kernel
theorem dX3_isThere_14 : decode cX3_isThere 14 = .ok (.if_icmp .eq 7, 3) := by decide +kernel
theorem dX3_isThere_17 : decode cX3_isThere 17 = .ok (.iconst 1, 1) := by decide +kernel
theorem dX3_isThere_18 : decode cX3_isThere 18 = .ok (.goto 4, 3) := by decide +kernel
theorem dX3_isThere_21 : decode cX3_isThere 21 = .ok (.iconst 0, 1) := by decide +kernel
theorem dX3_isThere_22 : decode cX3_isThere 22 = .ok (.ireturn, 1) := by decide +kernel
set_option maxRecDepth 20000 in
theorem ggX3_goodsOf_X3_isThere : GoodIn wsX3_goodsOf wsX3_isThere := goodIn_r _ [6, 1, 7, 8, 9, 10, 11, 12, 13] (by decide +kernel) (by decide +kernel)
set_option maxRecDepth 20000 in
theorem gX3_goodsOf_X3_isThere : GoodIn wsX3_goodsOf (wsV RX3 25 RX3 yX3_isThere wsX3_isThere) := goodIn_app (goodIn_of _ (by decide +kernel)) ggX3_goodsOf_X3_isThere
theorem dX3_goodsOf_0 : decode cX3_goodsOf 0 = .ok (.aload_n 0, 1) := by decide +kernel
theorem dX3_goodsOf_1 : decode cX3_goodsOf 1 = .ok (.iload_n 1, 1) := by decide +kernel
theorem dX3_goodsOf_2 : decode cX3_goodsOf 2 = .ok (.invokevirtual 25, 3) := by decide +kernel
theorem dX3_goodsOf_5 : decode cX3_goodsOf 5 = .ok (.ifCond .eq 12, 3) := by decide +kernel
theorem dX3_goodsOf_8 : decode cX3_goodsOf 8 = .ok (.aload_n 0, 1) := by decide +kernel
theorem dX3_goodsOf_9 : decode cX3_goodsOf 9 = .ok (.getfield 9, 3) := by decide +kernel
theorem dX3_goodsOf_12 : decode cX3_goodsOf 12 = .ok (.iload_n 1, 1) := by decide +kernel
theorem dX3_goodsOf_13 : decode cX3_goodsOf 13 = .ok (.iaload, 1) := by decide +kernel
theorem dX3_goodsOf_14 : decode cX3_goodsOf 14 = .ok (.goto 4, 3) := by decide +kernel
theorem dX3_goodsOf_17 : decode cX3_goodsOf 17 = .ok (.iconst 0, 1) := by decide +kernel
theorem dX3_goodsOf_18 : decode cX3_goodsOf 18 = .ok (.ireturn, 1) := by decide +kernel
set_option maxRecDepth 20000 in
theorem ggX3_leftOf_X3_isThere : GoodIn wsX3_leftOf wsX3_isThere := goodIn_r _ [6, 7, 8, 9, 10, 11, 12, 13, 14] (by decide +kernel) (by decide +kernel)
set_option maxRecDepth 20000 in
theorem gX3_leftOf_X3_isThere : GoodIn wsX3_leftOf (wsV RX3 25 RX3 yX3_isThere wsX3_isThere) := goodIn_app (goodIn_of _ (by decide +kernel)) ggX3_leftOf_X3_isThere
theorem dX3_leftOf_0 : decode cX3_leftOf 0 = .ok (.aload_n 0, 1) := by decide +kernel
theorem dX3_leftOf_1 : decode cX3_leftOf 1 = .ok (.iload_n 1, 1) := by decide +kernel
theorem dX3_leftOf_2 : decode cX3_leftOf 2 = .ok (.invokevirtual 25, 3) := by decide +kernel
theorem dX3_leftOf_5 : decode cX3_leftOf 5 = .ok (.ifCond .eq 12, 3) := by decide +kernel
theorem dX3_leftOf_8 : decode cX3_leftOf 8 = .ok (.aload_n 0, 1) := by decide +kernel
theorem dX3_leftOf_9 : decode cX3_leftOf 9 = .ok (.getfield 15, 3) := by decide +kernel
theorem dX3_leftOf_12 : decode cX3_leftOf 12 = .ok (.iload_n 1, 1) := by decide +kernel
theorem dX3_leftOf_13 : decode cX3_leftOf 13 = .ok (.iaload, 1) := by decide +kernel
theorem dX3_leftOf_14 : decode cX3_leftOf 14 = .ok (.goto 4, 3) := by decide +kernel
theorem dX3_leftOf_17 : decode cX3_leftOf 17 = .ok (.iconst 0, 1) := by decide +kernel
theorem dX3_leftOf_18 : decode cX3_leftOf 18 = .ok (.ireturn, 1) := by decide +kernel
set_option maxRecDepth 20000 in
theorem ggX3_replace_X4_isShelf : GoodIn wsX3_replace wsX4_isShelf := goodIn_r _ [5] (by decide +kernel) (by decide +kernel)
set_option maxRecDepth 20000 in
theorem gX3_replace_X4_isShelf_n21 : GoodIn wsX3_replace (wsX4_isShelf) := ggX3_replace_X4_isShelf
set_option maxRecDepth 20000 in
theorem ggX3_replace_X3_isThere : GoodIn wsX3_replace wsX3_isThere := goodIn_r _ [10, 1, 3, 4, 5, 11, 12, 13, 14] (by decide +kernel) (by decide +kernel)
set_option maxRecDepth 20000 in
theorem gX3_replace_X3_isThere : GoodIn wsX3_replace (wsV RX3 25 RX3 yX3_isThere wsX3_isThere) := goodIn_app (goodIn_of _ (by decide +kernel)) ggX3_replace_X3_isThere
theorem dX3_replace_0 : decode cX3_replace 0 = .ok (.iload_n 1, 1) := by decide +kernel
theorem dX3_replace_1 : decode cX3_replace 1 = .ok (.invokestatic 21, 3) := by decide +kernel
theorem dX3_replace_4 : decode cX3_replace 4 = .ok (.ifCond .ne 5, 3) := by decide +kernel
theorem dX3_replace_7 : decode cX3_replace 7 = .ok (.iconst (-1), 1) := by decide +kernel
theorem dX3_replace_8 : decode cX3_replace 8 = .ok (.ireturn, 1) := by decide +kernel
theorem dX3_replace_9 : decode cX3_replace 9 = .ok (.aload_n 0, 1) := by decide +kernel
theorem dX3_replace_10 : decode cX3_replace 10 = .ok (.iload_n 1, 1) := by decide +kernel
theorem dX3_replace_11 : decode cX3_replace 11 = .ok (.invokevirtual 25, 3) := by decide +kernel
theorem dX3_replace_14 : decode cX3_replace 14 = .ok (.ifCond .eq 12, 3) := by decide +kernel
theorem dX3_replace_17 : decode cX3_replace 17 = .ok (.aload_n 0, 1) := by decide +kernel
theorem dX3_replace_18 : decode cX3_replace 18 = .ok (.getfield 9, 3) := by decide +kernel
theorem dX3_replace_21 : decode cX3_replace 21 = .ok (.iload_n 1, 1) := by decide +kernel
theorem dX3_replace_22 : decode cX3_replace 22 = .ok (.iaload, 1) := by decide +kernel
theorem dX3_replace_23 : decode cX3_replace 23 = .ok (.goto 5, 3) := by decide +kernel
theorem dX3_replace_26 : decode cX3_replace 26 = .ok (.bipush (-4), 2) := by decide +kernel
theorem dX3_replace_28 : decode cX3_replace 28 = .ok (.istore_n 3, 1) := by decide +kernel
theorem dX3_replace_29 : decode cX3_replace 29 = .ok (.aload_n 0, 1) := by decide +kernel
theorem dX3_replace_30 : decode cX3_replace 30 = .ok (.getfield 9, 3) := by decide +kernel
theorem dX3_replace_33 : decode cX3_replace 33 = .ok (.iload_n 1, 1) := by decide +kernel
theorem dX3_replace_34 : decode cX3_replace 34 = .ok (.iload_n 2, 1) := by decide +kernel
theorem dX3_replace_35 : decode cX3_replace 35 = .ok (.iastore, 1) := by decide +kernel
theorem dX3_replace_36 : decode cX3_replace 36 = .ok (.aload_n 0, 1) := by decide +kernel
theorem dX3_replace_37 : decode cX3_replace 37 = .ok (.getfield 15, 3) := by decide +kernel
theorem dX3_replace_40 : decode cX3_replace 40 = .ok (.iload_n 1, 1) := by decide +kernel
theorem dX3_replace_41 : decode cX3_replace 41 = .ok (.iconst 0, 1) := by decide +kernel
theorem dX3_replace_42 : decode cX3_replace 42 = .ok (.iastore, 1) := by decide +kernel
theorem dX3_replace_43 : decode cX3_replace 43 = .ok (.iload_n 3, 1) := by decide +kernel
theorem dX3_replace_44 : decode cX3_replace 44 = .ok (.ireturn, 1) := by decide +kernel
set_option maxRecDepth 20000 in
theorem ggX3_firstWith_X3_isThere : GoodIn wsX3_firstWith wsX3_isThere := goodIn_r _ [6, 1, 7, 8, 9, 10, 11, 12, 13] (by decide +kernel) (by decide +kernel)
set_option maxRecDepth 20000 in
theorem gX3_firstWith_X3_isThere : GoodIn wsX3_firstWith (wsV RX3 25 RX3 yX3_isThere wsX3_isThere) := goodIn_app (goodIn_of _ (by decide +kernel)) ggX3_firstWith_X3_isThere
theorem dX3_firstWith_0 : decode cX3_firstWith 0 = .ok (.iconst 0, 1) := by decide +kernel
theorem dX3_firstWith_1 : decode cX3_firstWith 1 = .ok (.istore_n 2, 1) := by decide +kernel
theorem dX3_firstWith_2 : decode cX3_firstWith 2 = .ok (.iload_n 2, 1) := by decide +kernel
theorem dX3_firstWith_3 : decode cX3_firstWith 3 = .ok (.bipush 8, 2) := by decide +kernel
theorem dX3_firstWith_5 : decode cX3_firstWith 5 = .ok (.if_icmp .ge 29, 3) := by decide +kernel
theorem dX3_firstWith_8 : decode cX3_firstWith 8 = .ok (.aload_n 0, 1) := by decide +kernel
theorem dX3_firstWith_9 : decode cX3_firstWith 9 = .ok (.iload_n 2, 1) := by decide +kernel
theorem dX3_firstWith_10 : decode cX3_firstWith 10 = .ok (.invokevirtual 25, 3) := by decide +kernel
theorem dX3_firstWith_13 : decode cX3_firstWith 13 = .ok (.ifCond .eq 15, 3) := by decide +kernel
theorem dX3_firstWith_16 : decode cX3_firstWith 16 = .ok (.aload_n 0, 1) := by decide +kernel
theorem dX3_firstWith_17 : decode cX3_firstWith 17 = .ok (.getfield 9, 3) := by decide +kernel
theorem dX3_firstWith_20 : decode cX3_firstWith 20 = .ok (.iload_n 2, 1) := by decide +kernel
theorem dX3_firstWith_21 : decode cX3_firstWith 21 = .ok (.iaload, 1) := by decide +kernel
theorem dX3_firstWith_22 : decode cX3_firstWith 22 = .ok (.iload_n 1, 1) := by decide +kernel
theorem dX3_firstWith_23 : decode cX3_firstWith 23 = .ok (.if_icmp .lt 5, 3) := by decide +kernel
theorem dX3_firstWith_26 : decode cX3_firstWith 26 = .ok (.iload_n 2, 1) := by decide +kernel
theorem dX3_firstWith_27 : decode cX3_firstWith 27 = .ok (.ireturn, 1) := by decide +kernel
theorem dX3_firstWith_28 : decode cX3_firstWith 28 = .ok (.iinc 2 1, 3) := by decide +kernel
theorem dX3_firstWith_31 : decode cX3_firstWith 31 = .ok (.goto (-29), 3) := by decide +kernel
theorem dX3_firstWith_34 : decode cX3_firstWith 34 = .ok (.bipush (-4), 2) := by decide +kernel
theorem dX3_firstWith_36 : decode cX3_firstWith 36 = .ok (.ireturn, 1) := by decide +kernel
set_option maxRecDepth 20000 in
theorem ggX3_rowUpTo_X3_isThere : GoodIn wsX3_rowUpTo wsX3_isThere := goodIn_r _ [6, 1, 7, 8, 9, 10, 11, 12, 13] (by decide +kernel) (by decide +kernel)
set_option maxRecDepth 20000 in
theorem gX3_rowUpTo_X3_isThere : GoodIn wsX3_rowUpTo (wsV RX3 25 RX3 yX3_isThere wsX3_isThere) := goodIn_app (goodIn_of _ (by decide +kernel)) ggX3_rowUpTo_X3_isThere
theorem dX3_rowUpTo_0 : decode cX3_rowUpTo 0 = .ok (.iconst 0, 1) := by decide +kernel
theorem dX3_rowUpTo_1 : decode cX3_rowUpTo 1 = .ok (.istore_n 2, 1) := by decide +kernel
theorem dX3_rowUpTo_2 : decode cX3_rowUpTo 2 = .ok (.iload_n 2, 1) := by decide +kernel
theorem dX3_rowUpTo_3 : decode cX3_rowUpTo 3 = .ok (.bipush 8, 2) := by decide +kernel
theorem dX3_rowUpTo_5 : decode cX3_rowUpTo 5 = .ok (.if_icmp .ge 27, 3) := by decide +kernel
theorem dX3_rowUpTo_8 : decode cX3_rowUpTo 8 = .ok (.aload_n 0, 1) := by decide +kernel
theorem dX3_rowUpTo_9 : decode cX3_rowUpTo 9 = .ok (.iload_n 2, 1) := by decide +kernel
theorem dX3_rowUpTo_10 : decode cX3_rowUpTo 10 = .ok (.invokevirtual 25, 3) := by decide +kernel
theorem dX3_rowUpTo_13 : decode cX3_rowUpTo 13 = .ok (.ifCond .eq 19, 3) := by decide +kernel
theorem dX3_rowUpTo_16 : decode cX3_rowUpTo 16 = .ok (.aload_n 0, 1) := by decide +kernel
theorem dX3_rowUpTo_17 : decode cX3_rowUpTo 17 = .ok (.getfield 9, 3) := by decide +kernel
theorem dX3_rowUpTo_20 : decode cX3_rowUpTo 20 = .ok (.iload_n 2, 1) := by decide +kernel
theorem dX3_rowUpTo_21 : decode cX3_rowUpTo 21 = .ok (.iaload, 1) := by decide +kernel
theorem dX3_rowUpTo_22 : decode cX3_rowUpTo 22 = .ok (.iload_n 1, 1) := by decide +kernel
theorem dX3_rowUpTo_23 : decode cX3_rowUpTo 23 = .ok (.if_icmp .gt 9, 3) := by decide +kernel
theorem dX3_rowUpTo_26 : decode cX3_rowUpTo 26 = .ok (.iinc 2 1, 3) := by decide +kernel
theorem dX3_rowUpTo_29 : decode cX3_rowUpTo 29 = .ok (.goto (-27), 3) := by decide +kernel
theorem dX3_rowUpTo_32 : decode cX3_rowUpTo 32 = .ok (.iload_n 2, 1) := by decide +kernel
theorem dX3_rowUpTo_33 : decode cX3_rowUpTo 33 = .ok (.ireturn, 1) := by decide +kernel
theorem dX3_giveRest_0 : decode cX3_giveRest 0 = .ok (.aload_n 0, 1) := by decide +kernel
theorem dX3_giveRest_1 : decode cX3_giveRest 1 = .ok (.getfield 28, 3) := by decide +kernel
theorem dX3_giveRest_4 : decode cX3_giveRest 4 = .ok (.istore_n 1, 1) := by decide +kernel
theorem dX3_giveRest_5 : decode cX3_giveRest 5 = .ok (.aload_n 0, 1) := by decide +kernel
theorem dX3_giveRest_6 : decode cX3_giveRest 6 = .ok (.iconst 0, 1) := by decide +kernel
theorem dX3_giveRest_7 : decode cX3_giveRest 7 = .ok (.putfield 28, 3) := by decide +kernel
theorem dX3_giveRest_10 : decode cX3_giveRest 10 = .ok (.iload_n 1, 1) := by decide +kernel
theorem dX3_giveRest_11 : decode cX3_giveRest 11 = .ok (.ireturn, 1) := by decide +kernel
set_option maxRecDepth 20000 in
theorem ggX3_inAll_X3_goodsOf : GoodIn wsX3_inAll wsX3_goodsOf := goodIn_r _ [5, 6, 7, 8, 9, 4, 10, 11, 12, 13, 14, 15, 16, 17] (by decide +kernel) (by decide +kernel)
set_option maxRecDepth 20000 in
theorem gX3_inAll_X3_goodsOf : GoodIn wsX3_inAll (wsV RX3 32 RX3 yX3_goodsOf wsX3_goodsOf) := goodIn_app (goodIn_of _ (by decide +kernel)) ggX3_inAll_X3_goodsOf
theorem dX3_inAll_0 : decode cX3_inAll 0 = .ok (.iconst 0, 1) := by decide +kernel
theorem dX3_inAll_1 : decode cX3_inAll 1 = .ok (.istore_n 1, 1) := by decide +kernel
theorem dX3_inAll_2 : decode cX3_inAll 2 = .ok (.iconst 0, 1) := by decide +kernel
theorem dX3_inAll_3 : decode cX3_inAll 3 = .ok (.istore_n 2, 1) := by decide +kernel
theorem dX3_inAll_4 : decode cX3_inAll 4 = .ok (.iload_n 2, 1) := by decide +kernel
theorem dX3_inAll_5 : decode cX3_inAll 5 = .ok (.bipush 8, 2) := by decide +kernel
theorem dX3_inAll_7 : decode cX3_inAll 7 = .ok (.if_icmp .ge 17, 3) := by decide +kernel
theorem dX3_inAll_10 : decode cX3_inAll 10 = .ok (.iload_n 1, 1) := by decide +kernel
theorem dX3_inAll_11 : decode cX3_inAll 11 = .ok (.aload_n 0, 1) := by decide +kernel
theorem dX3_inAll_12 : decode cX3_inAll 12 = .ok (.iload_n 2, 1) := by decide +kernel
theorem dX3_inAll_13 : decode cX3_inAll 13 = .ok (.invokevirtual 32, 3) := by decide +kernel
theorem dX3_inAll_16 : decode cX3_inAll 16 = .ok (.iadd, 1) := by decide +kernel
theorem dX3_inAll_17 : decode cX3_inAll 17 = .ok (.istore_n 1, 1) := by decide +kernel
theorem dX3_inAll_18 : decode cX3_inAll 18 = .ok (.iinc 2 1, 3) := by decide +kernel
theorem dX3_inAll_21 : decode cX3_inAll 21 = .ok (.goto (-17), 3) := by decide +kernel
theorem dX3_inAll_24 : decode cX3_inAll 24 = .ok (.iload_n 1, 1) := by decide +kernel
theorem dX3_inAll_25 : decode cX3_inAll 25 = .ok (.ireturn, 1) := by decide +kernel
set_option maxRecDepth 20000 in
theorem ggX3_missing_X4_isShelf : GoodIn wsX3_missing wsX4_isShelf := goodIn_r _ [4] (by decide +kernel) (by decide +kernel)
set_option maxRecDepth 20000 in
theorem gX3_missing_X4_isShelf_n21 : GoodIn wsX3_missing (wsX4_isShelf) := ggX3_missing_X4_isShelf
theorem dX3_missing_0 : decode cX3_missing 0 = .ok (.iload_n 1, 1) := by decide +kernel
theorem dX3_missing_1 : decode cX3_missing 1 = .ok (.invokestatic 21, 3) := by decide +kernel
theorem dX3_missing_4 : decode cX3_missing 4 = .ok (.ifCond .ne 5, 3) := by decide +kernel
theorem dX3_missing_7 : decode cX3_missing 7 = .ok (.iconst 1, 1) := by decide +kernel
theorem dX3_missing_8 : decode cX3_missing 8 = .ok (.ireturn, 1) := by decide +kernel
theorem dX3_missing_9 : decode cX3_missing 9 = .ok (.aload_n 0, 1) := by decide +kernel
theorem dX3_missing_10 : decode cX3_missing 10 = .ok (.getfield 9, 3) := by decide +kernel
theorem dX3_missing_13 : decode cX3_missing 13 = .ok (.iload_n 1, 1) := by decide +kernel
theorem dX3_missing_14 : decode cX3_missing 14 = .ok (.iaload, 1) := by decide +kernel
theorem dX3_missing_15 : decode cX3_missing 15 = .ok (.iconst (-1), 1) := by decide +kernel
theorem dX3_missing_16 : decode cX3_missing 16 = .ok (.if_icmp .eq 7, 3) := by decide +kernel
theorem dX3_missing_19 : decode cX3_missing 19 = .ok (.iconst 0, 1) := by decide +kernel
theorem dX3_missing_20 : decode cX3_missing 20 = .ok (.goto 4, 3) := by decide +kernel
theorem dX3_missing_23 : decode cX3_missing 23 = .ok (.iconst 2, 1) := by decide +kernel
theorem dX3_missing_24 : decode cX3_missing 24 = .ok (.ireturn, 1) := by decide +kernel
set_option maxRecDepth 20000 in
theorem ggX3_holdOnce_X4_isShelf : GoodIn wsX3_holdOnce wsX4_isShelf := goodIn_r _ [4] (by decide +kernel) (by decide +kernel)
set_option maxRecDepth 20000 in
theorem gX3_holdOnce_X4_isShelf_n21 : GoodIn wsX3_holdOnce (wsX4_isShelf) := ggX3_holdOnce_X4_isShelf
theorem dX3_holdOnce_0 : decode cX3_holdOnce 0 = .ok (.iload_n 1, 1) := by decide +kernel
theorem dX3_holdOnce_1 : decode cX3_holdOnce 1 = .ok (.invokestatic 21, 3) := by decide +kernel
theorem dX3_holdOnce_4 : decode cX3_holdOnce 4 = .ok (.ifCond .eq 13, 3) := by decide +kernel
theorem dX3_holdOnce_7 : decode cX3_holdOnce 7 = .ok (.aload_n 0, 1) := by decide +kernel
theorem dX3_holdOnce_8 : decode cX3_holdOnce 8 = .ok (.getfield 18, 3) := by decide +kernel
theorem dX3_holdOnce_11 : decode cX3_holdOnce 11 = .ok (.iload_n 1, 1) := by decide +kernel
theorem dX3_holdOnce_12 : decode cX3_holdOnce 12 = .ok (.dup2, 1) := by decide +kernel
theorem dX3_holdOnce_13 : decode cX3_holdOnce 13 = .ok (.iaload, 1) := by decide +kernel
theorem dX3_holdOnce_14 : decode cX3_holdOnce 14 = .ok (.iconst 1, 1) := by decide +kernel
theorem dX3_holdOnce_15 : decode cX3_holdOnce 15 = .ok (.iadd, 1) := by decide +kernel
theorem dX3_holdOnce_16 : decode cX3_holdOnce 16 = .ok (.iastore, 1) := by decide +kernel
theorem dX3_holdOnce_17 : decode cX3_holdOnce 17 = .ok (.return_, 1) := by decide +kernel
set_option maxRecDepth 20000 in
theorem ggX3_release_X4_isShelf : GoodIn wsX3_release wsX4_isShelf := goodIn_r _ [4] (by decide +kernel) (by decide +kernel)
set_option maxRecDepth 20000 in
theorem gX3_release_X4_isShelf_n21 : GoodIn wsX3_release (wsX4_isShelf) := ggX3_release_X4_isShelf
theorem dX3_release_0 : decode cX3_release 0 = .ok (.iload_n 1, 1) := by decide +kernel
theorem dX3_release_1 : decode cX3_release 1 = .ok (.invokestatic 21, 3) := by decide +kernel
theorem dX3_release_4 : decode cX3_release 4 = .ok (.ifCond .eq 13, 3) := by decide +kernel
theorem dX3_release_7 : decode cX3_release 7 = .ok (.aload_n 0, 1) := by decide +kernel
theorem dX3_release_8 : decode cX3_release 8 = .ok (.getfield 18, 3) := by decide +kernel
theorem dX3_release_11 : decode cX3_release 11 = .ok (.iload_n 1, 1) := by decide +kernel
theorem dX3_release_12 : decode cX3_release 12 = .ok (.dup2, 1) := by decide +kernel
theorem dX3_release_13 : decode cX3_release 13 = .ok (.iaload, 1) := by decide +kernel
theorem dX3_release_14 : decode cX3_release 14 = .ok (.iconst 1, 1) := by decide +kernel
theorem dX3_release_15 : decode cX3_release 15 = .ok (.isub, 1) := by decide +kernel
theorem dX3_release_16 : decode cX3_release 16 = .ok (.iastore, 1) := by decide +kernel
theorem dX3_release_17 : decode cX3_release 17 = .ok (.return_, 1) := by decide +kernel
set_option maxRecDepth 20000 in
theorem ggX3_countLeft_X4_isShelf : GoodIn wsX3_countLeft wsX4_isShelf := goodIn_r _ [4] (by decide +kernel) (by decide +kernel)
set_option maxRecDepth 20000 in
theorem gX3_countLeft_X4_isShelf_n21 : GoodIn wsX3_countLeft (wsX4_isShelf) := ggX3_countLeft_X4_isShelf
theorem dX3_countLeft_0 : decode cX3_countLeft 0 = .ok (.iload_n 1, 1) := by decide +kernel
theorem dX3_countLeft_1 : decode cX3_countLeft 1 = .ok (.invokestatic 21, 3) := by decide +kernel
theorem dX3_countLeft_4 : decode cX3_countLeft 4 = .ok (.ifCond .eq 13, 3) := by decide +kernel
theorem dX3_countLeft_7 : decode cX3_countLeft 7 = .ok (.aload_n 0, 1) := by decide +kernel
theorem dX3_countLeft_8 : decode cX3_countLeft 8 = .ok (.getfield 15, 3) := by decide +kernel
theorem dX3_countLeft_11 : decode cX3_countLeft 11 = .ok (.iload_n 1, 1) := by decide +kernel
theorem dX3_countLeft_12 : decode cX3_countLeft 12 = .ok (.dup2, 1) := by decide +kernel
theorem dX3_countLeft_13 : decode cX3_countLeft 13 = .ok (.iaload, 1) := by decide +kernel
theorem dX3_countLeft_14 : decode cX3_countLeft 14 = .ok (.iconst 1, 1) := by decide +kernel
theorem dX3_countLeft_15 : decode cX3_countLeft 15 = .ok (.iadd, 1) := by decide +kernel
theorem dX3_countLeft_16 : decode cX3_countLeft 16 = .ok (.iastore, 1) := by decide +kernel
theorem dX3_countLeft_17 : decode cX3_countLeft 17 = .ok (.return_, 1) := by decide +kernel
set_option maxRecDepth 20000 in
theorem ggX3_put_X3_missingOrLoose : GoodIn wsX3_put wsX3_missingOrLoose := goodIn_r _ [6, 7, 8, 9, 10, 5, 11, 1, 12, 13, 14, 15, 16, 17, 18] (by decide +kernel) (by decide +kernel)
set_option maxRecDepth 20000 in
theorem gX3_put_X3_missingOrLoose : GoodIn wsX3_put (wsV RX3 36 RX3 yX3_missingOrLoose wsX3_missingOrLoose) := goodIn_app (goodIn_of _ (by decide +kernel)) ggX3_put_X3_missingOrLoose
theorem dX3_put_0 : decode cX3_put 0 = .ok (.aload_n 0, 1) := by decide +kernel
theorem dX3_put_1 : decode cX3_put 1 = .ok (.iload_n 1, 1) := by decide +kernel
theorem dX3_put_2 : decode cX3_put 2 = .ok (.invokevirtual 36, 3) := by decide +kernel
theorem dX3_put_5 : decode cX3_put 5 = .ok (.istore_n 3, 1) := by decide +kernel
theorem dX3_put_6 : decode cX3_put 6 = .ok (.iload_n 3, 1) := by decide +kernel
theorem dX3_put_7 : decode cX3_put 7 = .ok (.ifCond .eq 5, 3) := by decide +kernel
theorem dX3_put_10 : decode cX3_put 10 = .ok (.iload_n 3, 1) := by decide +kernel
theorem dX3_put_11 : decode cX3_put 11 = .ok (.ireturn, 1) := by decide +kernel
theorem dX3_put_12 : decode cX3_put 12 = .ok (.aload_n 0, 1) := by decide +kernel
theorem dX3_put_13 : decode cX3_put 13 = .ok (.getfield 9, 3) := by decide +kernel
theorem dX3_put_16 : decode cX3_put 16 = .ok (.iload_n 1, 1) := by decide +kernel
theorem dX3_put_17 : decode cX3_put 17 = .ok (.iaload, 1) := by decide +kernel
theorem dX3_put_18 : decode cX3_put 18 = .ok (.iload_n 2, 1) := by decide +kernel
theorem dX3_put_19 : decode cX3_put 19 = .ok (.iadd, 1) := by decide +kernel
theorem dX3_put_20 : decode cX3_put 20 = .ok (.sipush 1000, 3) := by decide +kernel
theorem dX3_put_23 : decode cX3_put 23 = .ok (.if_icmp .le 5, 3) := by decide +kernel
theorem dX3_put_26 : decode cX3_put 26 = .ok (.iconst 5, 1) := by decide +kernel
theorem dX3_put_27 : decode cX3_put 27 = .ok (.ireturn, 1) := by decide +kernel
theorem dX3_put_28 : decode cX3_put 28 = .ok (.aload_n 0, 1) := by decide +kernel
theorem dX3_put_29 : decode cX3_put 29 = .ok (.getfield 9, 3) := by decide +kernel
theorem dX3_put_32 : decode cX3_put 32 = .ok (.iload_n 1, 1) := by decide +kernel
theorem dX3_put_33 : decode cX3_put 33 = .ok (.dup2, 1) := by decide +kernel
theorem dX3_put_34 : decode cX3_put 34 = .ok (.iaload, 1) := by decide +kernel
theorem dX3_put_35 : decode cX3_put 35 = .ok (.iload_n 2, 1) := by decide +kernel
theorem dX3_put_36 : decode cX3_put 36 = .ok (.iadd, 1) := by decide +kernel
theorem dX3_put_37 : decode cX3_put 37 = .ok (.iastore, 1) := by decide +kernel
theorem dX3_put_38 : decode cX3_put 38 = .ok (.iconst 0, 1) := by decide +kernel
theorem dX3_put_39 : decode cX3_put 39 = .ok (.ireturn, 1) := by decide +kernel
set_option maxRecDepth 20000 in
theorem ggX3_take_X3_missingOrLoose : GoodIn wsX3_take wsX3_missingOrLoose := goodIn_r _ [6, 7, 8, 9, 10, 5, 11, 1, 12, 13, 14, 15, 16, 17, 18] (by decide +kernel) (by decide +kernel)
set_option maxRecDepth 20000 in
theorem gX3_take_X3_missingOrLoose : GoodIn wsX3_take (wsV RX3 36 RX3 yX3_missingOrLoose wsX3_missingOrLoose) := goodIn_app (goodIn_of _ (by decide +kernel)) ggX3_take_X3_missingOrLoose
theorem dX3_take_0 : decode cX3_take 0 = .ok (.aload_n 0, 1) := by decide +kernel
theorem dX3_take_1 : decode cX3_take 1 = .ok (.iload_n 1, 1) := by decide +kernel
theorem dX3_take_2 : decode cX3_take 2 = .ok (.invokevirtual 36, 3) := by decide +kernel
theorem dX3_take_5 : decode cX3_take 5 = .ok (.istore_n 3, 1) := by decide +kernel
theorem dX3_take_6 : decode cX3_take 6 = .ok (.iload_n 3, 1) := by decide +kernel
theorem dX3_take_7 : decode cX3_take 7 = .ok (.ifCond .eq 5, 3) := by decide +kernel
theorem dX3_take_10 : decode cX3_take 10 = .ok (.iload_n 3, 1) := by decide +kernel
theorem dX3_take_11 : decode cX3_take 11 = .ok (.ireturn, 1) := by decide +kernel
theorem dX3_take_12 : decode cX3_take 12 = .ok (.iload_n 2, 1) := by decide +kernel
theorem dX3_take_13 : decode cX3_take 13 = .ok (.aload_n 0, 1) := by decide +kernel
theorem dX3_take_14 : decode cX3_take 14 = .ok (.getfield 9, 3) := by decide +kernel
theorem dX3_take_17 : decode cX3_take 17 = .ok (.iload_n 1, 1) := by decide +kernel
theorem dX3_take_18 : decode cX3_take 18 = .ok (.iaload, 1) := by decide +kernel
theorem dX3_take_19 : decode cX3_take 19 = .ok (.if_icmp .le 5, 3) := by decide +kernel
theorem dX3_take_22 : decode cX3_take 22 = .ok (.iconst 4, 1) := by decide +kernel
theorem dX3_take_23 : decode cX3_take 23 = .ok (.ireturn, 1) := by decide +kernel
theorem dX3_take_24 : decode cX3_take 24 = .ok (.aload_n 0, 1) := by decide +kernel
theorem dX3_take_25 : decode cX3_take 25 = .ok (.getfield 9, 3) := by decide +kernel
theorem dX3_take_28 : decode cX3_take 28 = .ok (.iload_n 1, 1) := by decide +kernel
theorem dX3_take_29 : decode cX3_take 29 = .ok (.dup2, 1) := by decide +kernel
theorem dX3_take_30 : decode cX3_take 30 = .ok (.iaload, 1) := by decide +kernel
theorem dX3_take_31 : decode cX3_take 31 = .ok (.iload_n 2, 1) := by decide +kernel
theorem dX3_take_32 : decode cX3_take 32 = .ok (.isub, 1) := by decide +kernel
theorem dX3_take_33 : decode cX3_take 33 = .ok (.iastore, 1) := by decide +kernel
theorem dX3_take_34 : decode cX3_take 34 = .ok (.iconst 0, 1) := by decide +kernel
theorem dX3_take_35 : decode cX3_take 35 = .ok (.ireturn, 1) := by decide +kernel
set_option maxRecDepth 20000 in
theorem ggX3_share_X3_missingOrLoose : GoodIn wsX3_share wsX3_missingOrLoose := goodIn_r _ [7, 8, 9, 10, 11, 6, 12, 1, 13, 14, 15, 16, 17, 18, 19] (by decide +kernel) (by decide +kernel)
set_option maxRecDepth 20000 in
theorem gX3_share_X3_missingOrLoose : GoodIn wsX3_share (wsV RX3 36 RX3 yX3_missingOrLoose wsX3_missingOrLoose) := goodIn_app (goodIn_of _ (by decide +kernel)) ggX3_share_X3_missingOrLoose
theorem dX3_share_0 : decode cX3_share 0 = .ok (.aload_n 0, 1) := by decide +kernel
theorem dX3_share_1 : decode cX3_share 1 = .ok (.iload_n 1, 1) := by decide +kernel
theorem dX3_share_2 : decode cX3_share 2 = .ok (.invokevirtual 36, 3) := by decide +kernel
theorem dX3_share_5 : decode cX3_share 5 = .ok (.istore_n 3, 1) := by decide +kernel
theorem dX3_share_6 : decode cX3_share 6 = .ok (.iload_n 3, 1) := by decide +kernel
theorem dX3_share_7 : decode cX3_share 7 = .ok (.ifCond .eq 5, 3) := by decide +kernel
theorem dX3_share_10 : decode cX3_share 10 = .ok (.iload_n 3, 1) := by decide +kernel
theorem dX3_share_11 : decode cX3_share 11 = .ok (.ireturn, 1) := by decide +kernel
theorem dX3_share_12 : decode cX3_share 12 = .ok (.iload_n 2, 1) := by decide +kernel
theorem dX3_share_13 : decode cX3_share 13 = .ok (.ifCond .ne 5, 3) := by decide +kernel
theorem dX3_share_16 : decode cX3_share 16 = .ok (.iconst 3, 1) := by decide +kernel
theorem dX3_share_17 : decode cX3_share 17 = .ok (.ireturn, 1) := by decide +kernel
theorem dX3_share_18 : decode cX3_share 18 = .ok (.aload_n 0, 1) := by decide +kernel
theorem dX3_share_19 : decode cX3_share 19 = .ok (.getfield 9, 3) := by decide +kernel
theorem dX3_share_22 : decode cX3_share 22 = .ok (.iload_n 1, 1) := by decide +kernel
theorem dX3_share_23 : decode cX3_share 23 = .ok (.iaload, 1) := by decide +kernel
theorem dX3_share_24 : decode cX3_share 24 = .ok (.iload_n 2, 1) := by decide +kernel
theorem dX3_share_25 : decode cX3_share 25 = .ok (.idiv, 1) := by decide +kernel
theorem dX3_share_26 : decode cX3_share 26 = .ok (.istore 4, 2) := by decide +kernel
theorem dX3_share_28 : decode cX3_share 28 = .ok (.aload_n 0, 1) := by decide +kernel
theorem dX3_share_29 : decode cX3_share 29 = .ok (.dup, 1) := by decide +kernel
theorem dX3_share_30 : decode cX3_share 30 = .ok (.getfield 28, 3) := by decide +kernel
theorem dX3_share_33 : decode cX3_share 33 = .ok (.aload_n 0, 1) := by decide +kernel
theorem dX3_share_34 : decode cX3_share 34 = .ok (.getfield 9, 3) := by decide +kernel
theorem dX3_share_37 : decode cX3_share 37 = .ok (.iload_n 1, 1) := by decide +kernel
theorem dX3_share_38 : decode cX3_share 38 = .ok (.iaload, 1) := by decide +kernel
theorem dX3_share_39 : decode cX3_share 39 = .ok (.iload 4, 2) := by decide +kernel
theorem dX3_share_41 : decode cX3_share 41 = .ok (.isub, 1) := by decide +kernel
theorem dX3_share_42 : decode cX3_share 42 = .ok (.iadd, 1) := by decide +kernel
theorem dX3_share_43 : decode cX3_share 43 = .ok (.putfield 28, 3) := by decide +kernel
theorem dX3_share_46 : decode cX3_share 46 = .ok (.aload_n 0, 1) := by decide +kernel
theorem dX3_share_47 : decode cX3_share 47 = .ok (.getfield 9, 3) := by decide +kernel
theorem dX3_share_50 : decode cX3_share 50 = .ok (.iload_n 1, 1) := by decide +kernel
theorem dX3_share_51 : decode cX3_share 51 = .ok (.iload 4, 2) := by decide +kernel
theorem dX3_share_53 : decode cX3_share 53 = .ok (.iastore, 1) := by decide +kernel
theorem dX3_share_54 : decode cX3_share 54 = .ok (.iconst 0, 1) := by decide +kernel
theorem dX3_share_55 : decode cX3_share 55 = .ok (.ireturn, 1) := by decide +kernel
set_option maxRecDepth 20000 in
theorem ggX3_move_X4_isShelf : GoodIn wsX3_move wsX4_isShelf := goodIn_r _ [4] (by decide +kernel) (by decide +kernel)
set_option maxRecDepth 20000 in
theorem gX3_move_X4_isShelf_n21 : GoodIn wsX3_move (wsX4_isShelf) := ggX3_move_X4_isShelf
set_option maxRecDepth 20000 in
theorem ggX3_move_X3_isThere : GoodIn wsX3_move wsX3_isThere := goodIn_r _ [9, 1, 2, 3, 4, 10, 11, 12, 13] (by decide +kernel) (by decide +kernel)
set_option maxRecDepth 20000 in
theorem gX3_move_X3_isThere : GoodIn wsX3_move (wsV RX3 25 RX3 yX3_isThere wsX3_isThere) := goodIn_app (goodIn_of _ (by decide +kernel)) ggX3_move_X3_isThere
theorem dX3_move_0 : decode cX3_move 0 = .ok (.iload_n 1, 1) := by decide +kernel
theorem dX3_move_1 : decode cX3_move 1 = .ok (.invokestatic 21, 3) := by decide +kernel
theorem dX3_move_4 : decode cX3_move 4 = .ok (.ifCond .eq 10, 3) := by decide +kernel
theorem dX3_move_7 : decode cX3_move 7 = .ok (.iload_n 2, 1) := by decide +kernel
theorem dX3_move_8 : decode cX3_move 8 = .ok (.invokestatic 21, 3) := by decide +kernel
theorem dX3_move_11 : decode cX3_move 11 = .ok (.ifCond .ne 5, 3) := by decide +kernel
theorem dX3_move_14 : decode cX3_move 14 = .ok (.iconst 1, 1) := by decide +kernel
theorem dX3_move_15 : decode cX3_move 15 = .ok (.ireturn, 1) := by decide +kernel
theorem dX3_move_16 : decode cX3_move 16 = .ok (.aload_n 0, 1) := by decide +kernel
theorem dX3_move_17 : decode cX3_move 17 = .ok (.iload_n 1, 1) := by decide +kernel
theorem dX3_move_18 : decode cX3_move 18 = .ok (.invokevirtual 25, 3) := by decide +kernel
theorem dX3_move_21 : decode cX3_move 21 = .ok (.ifCond .eq 11, 3) := by decide +kernel
theorem dX3_move_24 : decode cX3_move 24 = .ok (.aload_n 0, 1) := by decide +kernel
theorem dX3_move_25 : decode cX3_move 25 = .ok (.iload_n 2, 1) := by decide +kernel
theorem dX3_move_26 : decode cX3_move 26 = .ok (.invokevirtual 25, 3) := by decide +kernel
theorem dX3_move_29 : decode cX3_move 29 = .ok (.ifCond .ne 5, 3) := by decide +kernel
theorem dX3_move_32 : decode cX3_move 32 = .ok (.iconst 2, 1) := by decide +kernel
theorem dX3_move_33 : decode cX3_move 33 = .ok (.ireturn, 1) := by decide +kernel
theorem dX3_move_34 : decode cX3_move 34 = .ok (.iload_n 3, 1) := by decide +kernel
theorem dX3_move_35 : decode cX3_move 35 = .ok (.aload_n 0, 1) := by decide +kernel
theorem dX3_move_36 : decode cX3_move 36 = .ok (.getfield 9, 3) := by decide +kernel
theorem dX3_move_39 : decode cX3_move 39 = .ok (.iload_n 1, 1) := by decide +kernel
theorem dX3_move_40 : decode cX3_move 40 = .ok (.iaload, 1) := by decide +kernel
theorem dX3_move_41 : decode cX3_move 41 = .ok (.if_icmp .le 5, 3) := by decide +kernel
theorem dX3_move_44 : decode cX3_move 44 = .ok (.iconst 4, 1) := by decide +kernel
theorem dX3_move_45 : decode cX3_move 45 = .ok (.ireturn, 1) := by decide +kernel
theorem dX3_move_46 : decode cX3_move 46 = .ok (.iload_n 1, 1) := by decide +kernel
theorem dX3_move_47 : decode cX3_move 47 = .ok (.iload_n 2, 1) := by decide +kernel
theorem dX3_move_48 : decode cX3_move 48 = .ok (.if_icmp .eq 19, 3) := by decide +kernel
theorem dX3_move_51 : decode cX3_move 51 = .ok (.aload_n 0, 1) := by decide +kernel
theorem dX3_move_52 : decode cX3_move 52 = .ok (.getfield 9, 3) := by decide +kernel
theorem dX3_move_55 : decode cX3_move 55 = .ok (.iload_n 2, 1) := by decide +kernel
theorem dX3_move_56 : decode cX3_move 56 = .ok (.iaload, 1) := by decide +kernel
theorem dX3_move_57 : decode cX3_move 57 = .ok (.iload_n 3, 1) := by decide +kernel
theorem dX3_move_58 : decode cX3_move 58 = .ok (.iadd, 1) := by decide +kernel
theorem dX3_move_59 : decode cX3_move 59 = .ok (.sipush 1000, 3) := by decide +kernel
theorem dX3_move_62 : decode cX3_move 62 = .ok (.if_icmp .le 5, 3) := by decide +kernel
theorem dX3_move_65 : decode cX3_move 65 = .ok (.iconst 5, 1) := by decide +kernel
theorem dX3_move_66 : decode cX3_move 66 = .ok (.ireturn, 1) := by decide +kernel
theorem dX3_move_67 : decode cX3_move 67 = .ok (.aload_n 0, 1) := by decide +kernel
theorem dX3_move_68 : decode cX3_move 68 = .ok (.getfield 9, 3) := by decide +kernel
theorem dX3_move_71 : decode cX3_move 71 = .ok (.iload_n 1, 1) := by decide +kernel
theorem dX3_move_72 : decode cX3_move 72 = .ok (.dup2, 1) := by decide +kernel
theorem dX3_move_73 : decode cX3_move 73 = .ok (.iaload, 1) := by decide +kernel
theorem dX3_move_74 : decode cX3_move 74 = .ok (.iload_n 3, 1) := by decide +kernel
theorem dX3_move_75 : decode cX3_move 75 = .ok (.isub, 1) := by decide +kernel
theorem dX3_move_76 : decode cX3_move 76 = .ok (.iastore, 1) := by decide +kernel
theorem dX3_move_77 : decode cX3_move 77 = .ok (.aload_n 0, 1) := by decide +kernel
theorem dX3_move_78 : decode cX3_move 78 = .ok (.getfield 9, 3) := by decide +kernel
theorem dX3_move_81 : decode cX3_move 81 = .ok (.iload_n 2, 1) := by decide +kernel
theorem dX3_move_82 : decode cX3_move 82 = .ok (.dup2, 1) := by decide +kernel
theorem dX3_move_83 : decode cX3_move 83 = .ok (.iaload, 1) := by decide +kernel
theorem dX3_move_84 : decode cX3_move 84 = .ok (.iload_n 3, 1) := by decide +kernel
theorem dX3_move_85 : decode cX3_move 85 = .ok (.iadd, 1) := by decide +kernel
theorem dX3_move_86 : decode cX3_move 86 = .ok (.iastore, 1) := by decide +kernel
theorem dX3_move_87 : decode cX3_move 87 = .ok (.iconst 0, 1) := by decide +kernel
theorem dX3_move_88 : decode cX3_move 88 = .ok (.ireturn, 1) := by decide +kernel
set_option maxRecDepth 20000 in
theorem ggX3_missingOrLoose_X3_missing : GoodIn wsX3_missingOrLoose wsX3_missing := goodIn_r _ [6, 7, 8, 9, 10, 11, 12, 13, 14] (by decide +kernel) (by decide +kernel)
set_option maxRecDepth 20000 in
theorem gX3_missingOrLoose_X3_missing : GoodIn wsX3_missingOrLoose (wsV RX3 39 RX3 yX3_missing wsX3_missing) := goodIn_app (goodIn_of _ (by decide +kernel)) ggX3_missingOrLoose_X3_missing
theorem dX3_missingOrLoose_0 : decode cX3_missingOrLoose 0 = .ok (.aload_n 0, 1) := by decide +kernel
theorem dX3_missingOrLoose_1 : decode cX3_missingOrLoose 1 = .ok (.iload_n 1, 1) := by decide +kernel
theorem dX3_missingOrLoose_2 : decode cX3_missingOrLoose 2 = .ok (.invokevirtual 39, 3) := by decide +kernel
theorem dX3_missingOrLoose_5 : decode cX3_missingOrLoose 5 = .ok (.istore_n 2, 1) := by decide +kernel
theorem dX3_missingOrLoose_6 : decode cX3_missingOrLoose 6 = .ok (.iload_n 2, 1) := by decide +kernel
theorem dX3_missingOrLoose_7 : decode cX3_missingOrLoose 7 = .ok (.ifCond .eq 5, 3) := by decide +kernel
theorem dX3_missingOrLoose_10 : decode cX3_missingOrLoose 10 = .ok (.iload_n 2, 1) := by decide +kernel
theorem dX3_missingOrLoose_11 : decode cX3_missingOrLoose 11 = .ok (.ireturn, 1) := by decide +kernel
theorem dX3_missingOrLoose_12 : decode cX3_missingOrLoose 12 = .ok (.aload_n 0, 1) := by decide +kernel
theorem dX3_missingOrLoose_13 : decode cX3_missingOrLoose 13 = .ok (.getfield 18, 3) := by decide +kernel
theorem dX3_missingOrLoose_16 : decode cX3_missingOrLoose 16 = .ok (.iload_n 1, 1) := by decide +kernel
theorem dX3_missingOrLoose_17 : decode cX3_missingOrLoose 17 = .ok (.iaload, 1) := by decide +kernel
theorem dX3_missingOrLoose_18 : decode cX3_missingOrLoose 18 = .ok (.ifCond .le 7, 3) := by decide +kernel
theorem dX3_missingOrLoose_21 : decode cX3_missingOrLoose 21 = .ok (.iconst 0, 1) := by decide +kernel
theorem dX3_missingOrLoose_22 : decode cX3_missingOrLoose 22 = .ok (.goto 5, 3) := by decide +kernel
theorem dX3_missingOrLoose_25 : decode cX3_missingOrLoose 25 = .ok (.bipush 7, 2) := by decide +kernel
theorem dX3_missingOrLoose_27 : decode cX3_missingOrLoose 27 = .ok (.ireturn, 1) := by decide +kernel
