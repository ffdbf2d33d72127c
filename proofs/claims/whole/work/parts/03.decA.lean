theorem dX0_init_0 : decode cX0_init 0 = .ok (.aload_n 0, 1) := by decide +kernel
theorem dX0_init_1 : decode cX0_init 1 = .ok (.invokespecial 3, 3) := by decide +kernel
theorem dX0_init_4 : decode cX0_init 4 = .ok (.aload_n 0, 1) := by decide +kernel
theorem dX0_init_5 : decode cX0_init 5 = .ok (.bipush 64, 2) := by decide +kernel
theorem dX0_init_7 : decode cX0_init 7 = .ok (.newarray .int, 2) := by decide +kernel
theorem dX0_init_9 : decode cX0_init 9 = .ok (.putfield 9, 3) := by decide +kernel
theorem dX0_init_12 : decode cX0_init 12 = .ok (.aload_n 0, 1) := by decide +kernel
theorem dX0_init_13 : decode cX0_init 13 = .ok (.bipush 64, 2) := by decide +kernel
theorem dX0_init_15 : decode cX0_init 15 = .ok (.newarray .int, 2) := by decide +kernel
theorem dX0_init_17 : decode cX0_init 17 = .ok (.putfield 15, 3) := by decide +kernel
theorem dX0_init_20 : decode cX0_init 20 = .ok (.aload_n 0, 1) := by decide +kernel
theorem dX0_init_21 : decode cX0_init 21 = .ok (.bipush 64, 2) := by decide +kernel
theorem dX0_init_23 : decode cX0_init 23 = .ok (.newarray .int, 2) := by decide +kernel
theorem dX0_init_25 : decode cX0_init 25 = .ok (.putfield 18, 3) := by decide +kernel
theorem dX0_init_28 : decode cX0_init 28 = .ok (.return_, 1) := by decide +kernel
theorem dX0_size_0 : decode cX0_size 0 = .ok (.aload_n 0, 1) := by decide +kernel
theorem dX0_size_1 : decode cX0_size 1 = .ok (.getfield 21, 3) := by decide +kernel
theorem dX0_size_4 : decode cX0_size 4 = .ok (.ireturn, 1) := by decide +kernel
theorem dX0_push_0 : decode cX0_push 0 = .ok (.aload_n 0, 1) := by decide +kernel
theorem dX0_push_1 : decode cX0_push 1 = .ok (.getfield 21, 3) := by decide +kernel
theorem dX0_push_4 : decode cX0_push 4 = .ok (.bipush 64, 2) := by decide +kernel
theorem dX0_push_6 : decode cX0_push 6 = .ok (.if_icmp .ge 43, 3) := by decide +kernel
theorem dX0_push_9 : decode cX0_push 9 = .ok (.aload_n 0, 1) := by decide +kernel
theorem dX0_push_10 : decode cX0_push 10 = .ok (.getfield 9, 3) := by decide +kernel
theorem dX0_push_13 : decode cX0_push 13 = .ok (.aload_n 0, 1) := by decide +kernel
theorem dX0_push_14 : decode cX0_push 14 = .ok (.getfield 21, 3) := by decide +kernel
theorem dX0_push_17 : decode cX0_push 17 = .ok (.iload_n 1, 1) := by decide +kernel
theorem dX0_push_18 : decode cX0_push 18 = .ok (.iastore, 1) := by decide +kernel
theorem dX0_push_19 : decode cX0_push 19 = .ok (.aload_n 0, 1) := by decide +kernel
theorem dX0_push_20 : decode cX0_push 20 = .ok (.getfield 15, 3) := by decide +kernel
theorem dX0_push_23 : decode cX0_push 23 = .ok (.aload_n 0, 1) := by decide +kernel
theorem dX0_push_24 : decode cX0_push 24 = .ok (.getfield 21, 3) := by decide +kernel
theorem dX0_push_27 : decode cX0_push 27 = .ok (.iload_n 2, 1) := by decide +kernel
theorem dX0_push_28 : decode cX0_push 28 = .ok (.iastore, 1) := by decide +kernel
theorem dX0_push_29 : decode cX0_push 29 = .ok (.aload_n 0, 1) := by decide +kernel
theorem dX0_push_30 : decode cX0_push 30 = .ok (.getfield 18, 3) := by decide +kernel
theorem dX0_push_33 : decode cX0_push 33 = .ok (.aload_n 0, 1) := by decide +kernel
theorem dX0_push_34 : decode cX0_push 34 = .ok (.getfield 21, 3) := by decide +kernel
theorem dX0_push_37 : decode cX0_push 37 = .ok (.iload_n 3, 1) := by decide +kernel
theorem dX0_push_38 : decode cX0_push 38 = .ok (.iastore, 1) := by decide +kernel
theorem dX0_push_39 : decode cX0_push 39 = .ok (.aload_n 0, 1) := by decide +kernel
theorem dX0_push_40 : decode cX0_push 40 = .ok (.dup, 1) := by decide +kernel
theorem dX0_push_41 : decode cX0_push 41 = .ok (.getfield 21, 3) := by decide +kernel
theorem dX0_push_44 : decode cX0_push 44 = .ok (.iconst 1, 1) := by decide +kernel
theorem dX0_push_45 : decode cX0_push 45 = .ok (.iadd, 1) := by decide +kernel
theorem dX0_push_46 : decode cX0_push 46 = .ok (.putfield 21, 3) := by decide +kernel
theorem dX0_push_49 : decode cX0_push 49 = .ok (.return_, 1) := by decide +kernel
theorem dX0_pop_0 : decode cX0_pop 0 = .ok (.aload_n 0, 1) := by decide +kernel
theorem dX0_pop_1 : decode cX0_pop 1 = .ok (.getfield 21, 3) := by decide +kernel
theorem dX0_pop_4 : decode cX0_pop 4 = .ok (.ifCond .le 13, 3) := by decide +kernel
theorem dX0_pop_7 : decode cX0_pop 7 = .ok (.aload_n 0, 1) := by decide +kernel
theorem dX0_pop_8 : decode cX0_pop 8 = .ok (.dup, 1) := by decide +kernel
theorem dX0_pop_9 : decode cX0_pop 9 = .ok (.getfield 21, 3) := by decide +kernel
theorem dX0_pop_12 : decode cX0_pop 12 = .ok (.iconst 1, 1) := by decide +kernel
theorem dX0_pop_13 : decode cX0_pop 13 = .ok (.isub, 1) := by decide +kernel
theorem dX0_pop_14 : decode cX0_pop 14 = .ok (.putfield 21, 3) := by decide +kernel
theorem dX0_pop_17 : decode cX0_pop 17 = .ok (.return_, 1) := by decide +kernel
theorem dX0_kind_0 : decode cX0_kind 0 = .ok (.aload_n 0, 1) := by decide +kernel
theorem dX0_kind_1 : decode cX0_kind 1 = .ok (.getfield 21, 3) := by decide +kernel
theorem dX0_kind_4 : decode cX0_kind 4 = .ok (.ifCond .le 17, 3) := by decide +kernel
theorem dX0_kind_7 : decode cX0_kind 7 = .ok (.aload_n 0, 1) := by decide +kernel
theorem dX0_kind_8 : decode cX0_kind 8 = .ok (.getfield 9, 3) := by decide +kernel
theorem dX0_kind_11 : decode cX0_kind 11 = .ok (.aload_n 0, 1) := by decide +kernel
theorem dX0_kind_12 : decode cX0_kind 12 = .ok (.getfield 21, 3) := by decide +kernel
theorem dX0_kind_15 : decode cX0_kind 15 = .ok (.iconst 1, 1) := by decide +kernel
theorem dX0_kind_16 : decode cX0_kind 16 = .ok (.isub, 1) := by decide +kernel
theorem dX0_kind_17 : decode cX0_kind 17 = .ok (.iaload, 1) := by decide +kernel
theorem dX0_kind_18 : decode cX0_kind 18 = .ok (.goto 5, 3) := by decide +kernel
theorem dX0_kind_21 : decode cX0_kind 21 = .ok (.bipush 9, 2) := by decide +kernel
theorem dX0_kind_23 : decode cX0_kind 23 = .ok (.ireturn, 1) := by decide +kernel
theorem dX0_number_0 : decode cX0_number 0 = .ok (.aload_n 0, 1) := by decide +kernel
theorem dX0_number_1 : decode cX0_number 1 = .ok (.getfield 21, 3) := by decide +kernel
theorem dX0_number_4 : decode cX0_number 4 = .ok (.ifCond .le 17, 3) := by decide +kernel
theorem dX0_number_7 : decode cX0_number 7 = .ok (.aload_n 0, 1) := by decide +kernel
theorem dX0_number_8 : decode cX0_number 8 = .ok (.getfield 15, 3) := by decide +kernel
theorem dX0_number_11 : decode cX0_number 11 = .ok (.aload_n 0, 1) := by decide +kernel
theorem dX0_number_12 : decode cX0_number 12 = .ok (.getfield 21, 3) := by decide +kernel
theorem dX0_number_15 : decode cX0_number 15 = .ok (.iconst 1, 1) := by decide +kernel
theorem dX0_number_16 : decode cX0_number 16 = .ok (.isub, 1) := by decide +kernel
theorem dX0_number_17 : decode cX0_number 17 = .ok (.iaload, 1) := by decide +kernel
theorem dX0_number_18 : decode cX0_number 18 = .ok (.goto 4, 3) := by decide +kernel
theorem dX0_number_21 : decode cX0_number 21 = .ok (.iconst 0, 1) := by decide +kernel
theorem dX0_number_22 : decode cX0_number 22 = .ok (.ireturn, 1) := by decide +kernel
theorem dX0_behind_0 : decode cX0_behind 0 = .ok (.aload_n 0, 1) := by decide +kernel
theorem dX0_behind_1 : decode cX0_behind 1 = .ok (.getfield 21, 3) := by decide +kernel
theorem dX0_behind_4 : decode cX0_behind 4 = .ok (.ifCond .le 17, 3) := by decide +kernel
theorem dX0_behind_7 : decode cX0_behind 7 = .ok (.aload_n 0, 1) := by decide +kernel
theorem dX0_behind_8 : decode cX0_behind 8 = .ok (.getfield 18, 3) := by decide +kernel
theorem dX0_behind_11 : decode cX0_behind 11 = .ok (.aload_n 0, 1) := by decide +kernel
theorem dX0_behind_12 : decode cX0_behind 12 = .ok (.getfield 21, 3) := by decide +kernel
theorem dX0_behind_15 : decode cX0_behind 15 = .ok (.iconst 1, 1) := by decide +kernel
theorem dX0_behind_16 : decode cX0_behind 16 = .ok (.isub, 1) := by decide +kernel
theorem dX0_behind_17 : decode cX0_behind 17 = .ok (.iaload, 1) := by decide +kernel
theorem dX0_behind_18 : decode cX0_behind 18 = .ok (.goto 4, 3) := by decide +kernel
theorem dX0_behind_21 : decode cX0_behind 21 = .ok (.iconst 0, 1) := by decide +kernel
theorem dX0_behind_22 : decode cX0_behind 22 = .ok (.ireturn, 1) := by decide +kernel
theorem dX1_init_0 : decode cX1_init 0 = .ok (.aload_n 0, 1) := by decide +kernel
theorem dX1_init_1 : decode cX1_init 1 = .ok (.invokespecial 3, 3) := by decide +kernel
theorem dX1_init_4 : decode cX1_init 4 = .ok (.aload_n 0, 1) := by decide +kernel
theorem dX1_init_5 : decode cX1_init 5 = .ok (.bipush 40, 2) := by decide +kernel
theorem dX1_init_7 : decode cX1_init 7 = .ok (.newarray .int, 2) := by decide +kernel
theorem dX1_init_9 : decode cX1_init 9 = .ok (.putfield 9, 3) := by decide +kernel
theorem dX1_init_12 : decode cX1_init 12 = .ok (.return_, 1) := by decide +kernel
theorem dX1_size_0 : decode cX1_size 0 = .ok (.aload_n 0, 1) := by decide +kernel
theorem dX1_size_1 : decode cX1_size 1 = .ok (.getfield 15, 3) := by decide +kernel
theorem dX1_size_4 : decode cX1_size 4 = .ok (.ireturn, 1) := by decide +kernel
theorem dX1_add_0 : decode cX1_add 0 = .ok (.aload_n 0, 1) := by decide +kernel
theorem dX1_add_1 : decode cX1_add 1 = .ok (.getfield 15, 3) := by decide +kernel
theorem dX1_add_4 : decode cX1_add 4 = .ok (.bipush 40, 2) := by decide +kernel
theorem dX1_add_6 : decode cX1_add 6 = .ok (.if_icmp .lt 6, 3) := by decide +kernel
theorem dX1_add_9 : decode cX1_add 9 = .ok (.bipush (-2), 2) := by decide +kernel
theorem dX1_add_11 : decode cX1_add 11 = .ok (.ireturn, 1) := by decide +kernel
theorem dX1_add_12 : decode cX1_add 12 = .ok (.aload_n 0, 1) := by decide +kernel
theorem dX1_add_13 : decode cX1_add 13 = .ok (.getfield 9, 3) := by decide +kernel
theorem dX1_add_16 : decode cX1_add 16 = .ok (.aload_n 0, 1) := by decide +kernel
theorem dX1_add_17 : decode cX1_add 17 = .ok (.getfield 15, 3) := by decide +kernel
theorem dX1_add_20 : decode cX1_add 20 = .ok (.iload_n 1, 1) := by decide +kernel
theorem dX1_add_21 : decode cX1_add 21 = .ok (.sipush 1000, 3) := by decide +kernel
theorem dX1_add_24 : decode cX1_add 24 = .ok (.imul, 1) := by decide +kernel
theorem dX1_add_25 : decode cX1_add 25 = .ok (.iload_n 2, 1) := by decide +kernel
theorem dX1_add_26 : decode cX1_add 26 = .ok (.bipush 100, 2) := by decide +kernel
theorem dX1_add_28 : decode cX1_add 28 = .ok (.imul, 1) := by decide +kernel
theorem dX1_add_29 : decode cX1_add 29 = .ok (.iadd, 1) := by decide +kernel
theorem dX1_add_30 : decode cX1_add 30 = .ok (.iload_n 3, 1) := by decide +kernel
theorem dX1_add_31 : decode cX1_add 31 = .ok (.bipush 10, 2) := by decide +kernel
theorem dX1_add_33 : decode cX1_add 33 = .ok (.imul, 1) := by decide +kernel
theorem dX1_add_34 : decode cX1_add 34 = .ok (.iadd, 1) := by decide +kernel
theorem dX1_add_35 : decode cX1_add 35 = .ok (.iload 4, 2) := by decide +kernel
theorem dX1_add_37 : decode cX1_add 37 = .ok (.iadd, 1) := by decide +kernel
theorem dX1_add_38 : decode cX1_add 38 = .ok (.iastore, 1) := by decide +kernel
theorem dX1_add_39 : decode cX1_add 39 = .ok (.aload_n 0, 1) := by decide +kernel
theorem dX1_add_40 : decode cX1_add 40 = .ok (.dup, 1) := by decide +kernel
theorem dX1_add_41 : decode cX1_add 41 = .ok (.getfield 15, 3) := by decide +kernel
theorem dX1_add_44 : decode cX1_add 44 = .ok (.iconst 1, 1) := by decide +kernel
theorem dX1_add_45 : decode cX1_add 45 = .ok (.iadd, 1) := by decide +kernel
theorem dX1_add_46 : decode cX1_add 46 = .ok (.putfield 15, 3) := by decide +kernel
theorem dX1_add_49 : decode cX1_add 49 = .ok (.aload_n 0, 1) := by decide +kernel
theorem dX1_add_50 : decode cX1_add 50 = .ok (.getfield 15, 3) := by decide +kernel
theorem dX1_add_53 : decode cX1_add 53 = .ok (.iconst 1, 1) := by decide +kernel
theorem dX1_add_54 : decode cX1_add 54 = .ok (.isub, 1) := by decide +kernel
theorem dX1_add_55 : decode cX1_add 55 = .ok (.ireturn, 1) := by decide +kernel
theorem dX1_empty_0 : decode cX1_empty 0 = .ok (.aload_n 0, 1) := by decide +kernel
theorem dX1_empty_1 : decode cX1_empty 1 = .ok (.getfield 15, 3) := by decide +kernel
theorem dX1_empty_4 : decode cX1_empty 4 = .ok (.istore_n 1, 1) := by decide +kernel
theorem dX1_empty_5 : decode cX1_empty 5 = .ok (.aload_n 0, 1) := by decide +kernel
theorem dX1_empty_6 : decode cX1_empty 6 = .ok (.iconst 0, 1) := by decide +kernel
theorem dX1_empty_7 : decode cX1_empty 7 = .ok (.putfield 15, 3) := by decide +kernel
theorem dX1_empty_10 : decode cX1_empty 10 = .ok (.iload_n 1, 1) := by decide +kernel
theorem dX1_empty_11 : decode cX1_empty 11 = .ok (.ireturn, 1) := by decide +kernel
theorem dX1_kindOf_0 : decode cX1_kindOf 0 = .ok (.iload_n 1, 1) := by decide +kernel
theorem dX1_kindOf_1 : decode cX1_kindOf 1 = .ok (.ifCond .lt 24, 3) := by decide +kernel
theorem dX1_kindOf_4 : decode cX1_kindOf 4 = .ok (.iload_n 1, 1) := by decide +kernel
theorem dX1_kindOf_5 : decode cX1_kindOf 5 = .ok (.aload_n 0, 1) := by decide +kernel
theorem dX1_kindOf_6 : decode cX1_kindOf 6 = .ok (.getfield 15, 3) := by decide +kernel
theorem dX1_kindOf_9 : decode cX1_kindOf 9 = .ok (.if_icmp .ge 16, 3) := by decide +kernel
theorem dX1_kindOf_12 : decode cX1_kindOf 12 = .ok (.aload_n 0, 1) := by decide +kernel
theorem dX1_kindOf_13 : decode cX1_kindOf 13 = .ok (.getfield 9, 3) := by decide +kernel
theorem dX1_kindOf_16 : decode cX1_kindOf 16 = .ok (.iload_n 1, 1) := by decide +kernel
theorem dX1_kindOf_17 : decode cX1_kindOf 17 = .ok (.iaload, 1) := by decide +kernel
theorem dX1_kindOf_18 : decode cX1_kindOf 18 = .ok (.sipush 1000, 3) := by decide +kernel
theorem dX1_kindOf_21 : decode cX1_kindOf 21 = .ok (.idiv, 1) := by decide +kernel
theorem dX1_kindOf_22 : decode cX1_kindOf 22 = .ok (.goto 5, 3) := by decide +kernel
theorem dX1_kindOf_25 : decode cX1_kindOf 25 = .ok (.bipush 9, 2) := by decide +kernel
theorem dX1_kindOf_27 : decode cX1_kindOf 27 = .ok (.ireturn, 1) := by decide +kernel
set_option maxRecDepth 20000 in
theorem ggX1_aOf_X1_digitsOf : GoodIn wsX1_aOf wsX1_digitsOf := goodIn_r _ [5, 6, 7, 8, 9] (by decide +kernel) (by decide +kernel)
set_option maxRecDepth 20000 in
theorem gX1_aOf_X1_digitsOf : GoodIn wsX1_aOf (wsV RX1 19 RX1 yX1_digitsOf wsX1_digitsOf) := goodIn_app (goodIn_of _ (by decide +kernel)) ggX1_aOf_X1_digitsOf
theorem dX1_aOf_0 : decode cX1_aOf 0 = .ok (.aload_n 0, 1) := by decide +kernel
theorem dX1_aOf_1 : decode cX1_aOf 1 = .ok (.iload_n 1, 1) := by decide +kernel
theorem dX1_aOf_2 : decode cX1_aOf 2 = .ok (.invokevirtual 19, 3) := by decide +kernel
theorem dX1_aOf_5 : decode cX1_aOf 5 = .ok (.bipush 100, 2) := by decide +kernel
theorem dX1_aOf_7 : decode cX1_aOf 7 = .ok (.idiv, 1) := by decide +kernel
theorem dX1_aOf_8 : decode cX1_aOf 8 = .ok (.bipush 10, 2) := by decide +kernel
theorem dX1_aOf_10 : decode cX1_aOf 10 = .ok (.irem, 1) := by decide +kernel
theorem dX1_aOf_11 : decode cX1_aOf 11 = .ok (.ireturn, 1) := by decide +kernel
set_option maxRecDepth 20000 in
theorem ggX1_bOf_X1_digitsOf : GoodIn wsX1_bOf wsX1_digitsOf := goodIn_r _ [5, 6, 7, 8, 9] (by decide +kernel) (by decide +kernel)
set_option maxRecDepth 20000 in
theorem gX1_bOf_X1_digitsOf : GoodIn wsX1_bOf (wsV RX1 19 RX1 yX1_digitsOf wsX1_digitsOf) := goodIn_app (goodIn_of _ (by decide +kernel)) ggX1_bOf_X1_digitsOf
theorem dX1_bOf_0 : decode cX1_bOf 0 = .ok (.aload_n 0, 1) := by decide +kernel
theorem dX1_bOf_1 : decode cX1_bOf 1 = .ok (.iload_n 1, 1) := by decide +kernel
theorem dX1_bOf_2 : decode cX1_bOf 2 = .ok (.invokevirtual 19, 3) := by decide +kernel
theorem dX1_bOf_5 : decode cX1_bOf 5 = .ok (.bipush 10, 2) := by decide +kernel
theorem dX1_bOf_7 : decode cX1_bOf 7 = .ok (.idiv, 1) := by decide +kernel
theorem dX1_bOf_8 : decode cX1_bOf 8 = .ok (.bipush 10, 2) := by decide +kernel
theorem dX1_bOf_10 : decode cX1_bOf 10 = .ok (.irem, 1) := by decide +kernel
theorem dX1_bOf_11 : decode cX1_bOf 11 = .ok (.ireturn, 1) := by decide +kernel
set_option maxRecDepth 20000 in
theorem ggX1_cOf_X1_digitsOf : GoodIn wsX1_cOf wsX1_digitsOf := goodIn_r _ [5, 6, 7, 8, 9] (by decide +kernel) (by decide +kernel)
set_option maxRecDepth 20000 in
theorem gX1_cOf_X1_digitsOf : GoodIn wsX1_cOf (wsV RX1 19 RX1 yX1_digitsOf wsX1_digitsOf) := goodIn_app (goodIn_of _ (by decide +kernel)) ggX1_cOf_X1_digitsOf
theorem dX1_cOf_0 : decode cX1_cOf 0 = .ok (.aload_n 0, 1) := by decide +kernel
theorem dX1_cOf_1 : decode cX1_cOf 1 = .ok (.iload_n 1, 1) := by decide +kernel
theorem dX1_cOf_2 : decode cX1_cOf 2 = .ok (.invokevirtual 19, 3) := by decide +kernel
theorem dX1_cOf_5 : decode cX1_cOf 5 = .ok (.bipush 10, 2) := by decide +kernel
theorem dX1_cOf_7 : decode cX1_cOf 7 = .ok (.irem, 1) := by decide +kernel
theorem dX1_cOf_8 : decode cX1_cOf 8 = .ok (.ireturn, 1) := by decide +kernel
theorem dX1_digitsOf_0 : decode cX1_digitsOf 0 = .ok (.iload_n 1, 1) := by decide +kernel
theorem dX1_digitsOf_1 : decode cX1_digitsOf 1 = .ok (.ifCond .lt 20, 3) := by decide +kernel
theorem dX1_digitsOf_4 : decode cX1_digitsOf 4 = .ok (.iload_n 1, 1) := by decide +kernel
theorem dX1_digitsOf_5 : decode cX1_digitsOf 5 = .ok (.aload_n 0, 1) := by decide +kernel
theorem dX1_digitsOf_6 : decode cX1_digitsOf 6 = .ok (.getfield 15, 3) := by decide +kernel
theorem dX1_digitsOf_9 : decode cX1_digitsOf 9 = .ok (.if_icmp .ge 12, 3) := by decide +kernel
theorem dX1_digitsOf_12 : decode cX1_digitsOf 12 = .ok (.aload_n 0, 1) := by decide +kernel
theorem dX1_digitsOf_13 : decode cX1_digitsOf 13 = .ok (.getfield 9, 3) := by decide +kernel
theorem dX1_digitsOf_16 : decode cX1_digitsOf 16 = .ok (.iload_n 1, 1) := by decide +kernel
theorem dX1_digitsOf_17 : decode cX1_digitsOf 17 = .ok (.iaload, 1) := by decide +kernel
theorem dX1_digitsOf_18 : decode cX1_digitsOf 18 = .ok (.goto 4, 3) := by decide +kernel
theorem dX1_digitsOf_21 : decode cX1_digitsOf 21 = .ok (.iconst 0, 1) := by decide +kernel
theorem dX1_digitsOf_22 : decode cX1_digitsOf 22 = .ok (.ireturn, 1) := by decide +kernel
set_option maxRecDepth 20000 in
theorem ggX1_isClosed_X1_deeperBy : GoodIn wsX1_isClosed wsX1_deeperBy := goodIn_r _ [6, 7, 8, 9, 5, 10, 1, 11, 12, 13] (by decide +kernel) (by decide +kernel)
set_option maxRecDepth 20000 in
theorem gX1_isClosed_X1_deeperBy : GoodIn wsX1_isClosed (wsV RX1 23 RX1 yX1_deeperBy wsX1_deeperBy) := goodIn_app (goodIn_of _ (by decide +kernel)) ggX1_isClosed_X1_deeperBy
theorem dX1_isClosed_0 : decode cX1_isClosed 0 = .ok (.iconst 0, 1) := by decide +kernel
theorem dX1_isClosed_1 : decode cX1_isClosed 1 = .ok (.istore_n 1, 1) := by decide +kernel
theorem dX1_isClosed_2 : decode cX1_isClosed 2 = .ok (.iconst 0, 1) := by decide +kernel
theorem dX1_isClosed_3 : decode cX1_isClosed 3 = .ok (.istore_n 2, 1) := by decide +kernel
theorem dX1_isClosed_4 : decode cX1_isClosed 4 = .ok (.iload_n 2, 1) := by decide +kernel
theorem dX1_isClosed_5 : decode cX1_isClosed 5 = .ok (.aload_n 0, 1) := by decide +kernel
theorem dX1_isClosed_6 : decode cX1_isClosed 6 = .ok (.getfield 15, 3) := by decide +kernel
theorem dX1_isClosed_9 : decode cX1_isClosed 9 = .ok (.if_icmp .ge 23, 3) := by decide +kernel
theorem dX1_isClosed_12 : decode cX1_isClosed 12 = .ok (.iload_n 1, 1) := by decide +kernel
theorem dX1_isClosed_13 : decode cX1_isClosed 13 = .ok (.aload_n 0, 1) := by decide +kernel
theorem dX1_isClosed_14 : decode cX1_isClosed 14 = .ok (.iload_n 2, 1) := by decide +kernel
theorem dX1_isClosed_15 : decode cX1_isClosed 15 = .ok (.invokevirtual 23, 3) := by decide +kernel
theorem dX1_isClosed_18 : decode cX1_isClosed 18 = .ok (.iadd, 1) := by decide +kernel
theorem dX1_isClosed_19 : decode cX1_isClosed 19 = .ok (.istore_n 1, 1) := by decide +kernel
theorem dX1_isClosed_20 : decode cX1_isClosed 20 = .ok (.iload_n 1, 1) := by decide +kernel
theorem dX1_isClosed_21 : decode cX1_isClosed 21 = .ok (.ifCond .ge 5, 3) := by decide +kernel
theorem dX1_isClosed_24 : decode cX1_isClosed 24 = .ok (.iconst 0, 1) := by decide +kernel
theorem dX1_isClosed_25 : decode cX1_isClosed 25 = .ok (.ireturn, 1) := by decide +kernel
theorem dX1_isClosed_26 : decode cX1_isClosed 26 = .ok (.iinc 2 1, 3) := by decide +kernel
theorem dX1_isClosed_29 : decode cX1_isClosed 29 = .ok (.goto (-25), 3) := by decide +kernel
theorem dX1_isClosed_32 : decode cX1_isClosed 32 = .ok (.iload_n 1, 1) := by decide +kernel
theorem dX1_isClosed_33 : decode cX1_isClosed 33 = .ok (.ifCond .ne 7, 3) := by decide +kernel
theorem dX1_isClosed_36 : decode cX1_isClosed 36 = .ok (.iconst 1, 1) := by decide +kernel
theorem dX1_isClosed_37 : decode cX1_isClosed 37 = .ok (.goto 4, 3) := by decide +kernel
theorem dX1_isClosed_40 : decode cX1_isClosed 40 = .ok (.iconst 0, 1) := by decide +kernel
theorem dX1_isClosed_41 : decode cX1_isClosed 41 = .ok (.ireturn, 1) := by decide +kernel
set_option maxRecDepth 20000 in
theorem ggX1_behindBlock_X1_deeperBy : GoodIn wsX1_behindBlock wsX1_deeperBy := goodIn_r _ [6, 7, 8, 9, 5, 10, 1, 11, 12, 13] (by decide +kernel) (by decide +kernel)
set_option maxRecDepth 20000 in
theorem gX1_behindBlock_X1_deeperBy : GoodIn wsX1_behindBlock (wsV RX1 23 RX1 yX1_deeperBy wsX1_deeperBy) := goodIn_app (goodIn_of _ (by decide +kernel)) ggX1_behindBlock_X1_deeperBy
theorem dX1_behindBlock_0 : decode cX1_behindBlock 0 = .ok (.iconst 0, 1) := by decide +kernel
theorem dX1_behindBlock_1 : decode cX1_behindBlock 1 = .ok (.istore_n 2, 1) := by decide +kernel
theorem dX1_behindBlock_2 : decode cX1_behindBlock 2 = .ok (.iload_n 1, 1) := by decide +kernel
theorem dX1_behindBlock_3 : decode cX1_behindBlock 3 = .ok (.istore_n 3, 1) := by decide +kernel
theorem dX1_behindBlock_4 : decode cX1_behindBlock 4 = .ok (.iload_n 3, 1) := by decide +kernel
theorem dX1_behindBlock_5 : decode cX1_behindBlock 5 = .ok (.aload_n 0, 1) := by decide +kernel
theorem dX1_behindBlock_6 : decode cX1_behindBlock 6 = .ok (.getfield 15, 3) := by decide +kernel
theorem dX1_behindBlock_9 : decode cX1_behindBlock 9 = .ok (.if_icmp .ge 25, 3) := by decide +kernel
theorem dX1_behindBlock_12 : decode cX1_behindBlock 12 = .ok (.iload_n 2, 1) := by decide +kernel
theorem dX1_behindBlock_13 : decode cX1_behindBlock 13 = .ok (.aload_n 0, 1) := by decide +kernel
theorem dX1_behindBlock_14 : decode cX1_behindBlock 14 = .ok (.iload_n 3, 1) := by decide +kernel
theorem dX1_behindBlock_15 : decode cX1_behindBlock 15 = .ok (.invokevirtual 23, 3) := by decide +kernel
theorem dX1_behindBlock_18 : decode cX1_behindBlock 18 = .ok (.iadd, 1) := by decide +kernel
theorem dX1_behindBlock_19 : decode cX1_behindBlock 19 = .ok (.istore_n 2, 1) := by decide +kernel
theorem dX1_behindBlock_20 : decode cX1_behindBlock 20 = .ok (.iload_n 2, 1) := by decide +kernel
theorem dX1_behindBlock_21 : decode cX1_behindBlock 21 = .ok (.ifCond .gt 7, 3) := by decide +kernel
theorem dX1_behindBlock_24 : decode cX1_behindBlock 24 = .ok (.iload_n 3, 1) := by decide +kernel
theorem dX1_behindBlock_25 : decode cX1_behindBlock 25 = .ok (.iconst 1, 1) := by decide +kernel
theorem dX1_behindBlock_26 : decode cX1_behindBlock 26 = .ok (.iadd, 1) := by decide +kernel
theorem dX1_behindBlock_27 : decode cX1_behindBlock 27 = .ok (.ireturn, 1) := by decide +kernel
theorem dX1_behindBlock_28 : decode cX1_behindBlock 28 = .ok (.iinc 3 1, 3) := by decide +kernel
theorem dX1_behindBlock_31 : decode cX1_behindBlock 31 = .ok (.goto (-27), 3) := by decide +kernel
theorem dX1_behindBlock_34 : decode cX1_behindBlock 34 = .ok (.aload_n 0, 1) := by decide +kernel
theorem dX1_behindBlock_35 : decode cX1_behindBlock 35 = .ok (.getfield 15, 3) := by decide +kernel
theorem dX1_behindBlock_38 : decode cX1_behindBlock 38 = .ok (.ireturn, 1) := by decide +kernel
set_option maxRecDepth 20000 in
theorem ggX1_deeperBy_X1_kindOf : GoodIn wsX1_deeperBy wsX1_kindOf := goodIn_r _ [5, 6, 7, 8, 9] (by decide +kernel) (by decide +kernel)
set_option maxRecDepth 20000 in
theorem gX1_deeperBy_X1_kindOf : GoodIn wsX1_deeperBy (wsV RX1 26 RX1 yX1_kindOf wsX1_kindOf) := goodIn_app (goodIn_of _ (by decide +kernel)) ggX1_deeperBy_X1_kindOf
theorem dX1_deeperBy_0 : decode cX1_deeperBy 0 = .ok (.aload_n 0, 1) := by decide +kernel
theorem dX1_deeperBy_1 : decode cX1_deeperBy 1 = .ok (.iload_n 1, 1) := by decide +kernel
theorem dX1_deeperBy_2 : decode cX1_deeperBy 2 = .ok (.invokevirtual 26, 3) := by decide +kernel
theorem dX1_deeperBy_5 : decode cX1_deeperBy 5 = .ok (.istore_n 2, 1) := by decide +kernel
theorem dX1_deeperBy_6 : decode cX1_deeperBy 6 = .ok (.iload_n 2, 1) := by decide +kernel
theorem dX1_deeperBy_7 : decode cX1_deeperBy 7 = .ok (.ifCond .eq 8, 3) := by decide +kernel
theorem dX1_deeperBy_10 : decode cX1_deeperBy 10 = .ok (.iload_n 2, 1) := by decide +kernel
theorem dX1_deeperBy_11 : decode cX1_deeperBy 11 = .ok (.iconst 1, 1) := by decide +kernel
theorem dX1_deeperBy_12 : decode cX1_deeperBy 12 = .ok (.if_icmp .ne 5, 3) := by decide +kernel
theorem dX1_deeperBy_15 : decode cX1_deeperBy 15 = .ok (.iconst 1, 1) := by decide +kernel
theorem dX1_deeperBy_16 : decode cX1_deeperBy 16 = .ok (.ireturn, 1) := by decide +kernel
theorem dX1_deeperBy_17 : decode cX1_deeperBy 17 = .ok (.iload_n 2, 1) := by decide +kernel
theorem dX1_deeperBy_18 : decode cX1_deeperBy 18 = .ok (.iconst 2, 1) := by decide +kernel
theorem dX1_deeperBy_19 : decode cX1_deeperBy 19 = .ok (.if_icmp .ne 7, 3) := by decide +kernel
theorem dX1_deeperBy_22 : decode cX1_deeperBy 22 = .ok (.iconst (-1), 1) := by decide +kernel
theorem dX1_deeperBy_23 : decode cX1_deeperBy 23 = .ok (.goto 4, 3) := by decide +kernel
theorem dX1_deeperBy_26 : decode cX1_deeperBy 26 = .ok (.iconst 0, 1) := by decide +kernel
theorem dX1_deeperBy_27 : decode cX1_deeperBy 27 = .ok (.ireturn, 1) := by decide +kernel
theorem dX2_init_0 : decode cX2_init 0 = .ok (.aload_n 0, 1) := by decide +kernel
theorem dX2_init_1 : decode cX2_init 1 = .ok (.invokespecial 3, 3) := by decide +kernel
theorem dX2_init_4 : decode cX2_init 4 = .ok (.aload_n 0, 1) := by decide +kernel
theorem dX2_init_5 : decode cX2_init 5 = .ok (.bipush 10, 2) := by decide +kernel
theorem dX2_init_7 : decode cX2_init 7 = .ok (.newarray .int, 2) := by decide +kernel
theorem dX2_init_9 : decode cX2_init 9 = .ok (.putfield 9, 3) := by decide +kernel
theorem dX2_init_12 : decode cX2_init 12 = .ok (.aload_n 0, 1) := by decide +kernel
theorem dX2_init_13 : decode cX2_init 13 = .ok (.bipush (-4), 2) := by decide +kernel
theorem dX2_init_15 : decode cX2_init 15 = .ok (.putfield 15, 3) := by decide +kernel
theorem dX2_init_18 : decode cX2_init 18 = .ok (.aload_n 0, 1) := by decide +kernel
theorem dX2_init_19 : decode cX2_init 19 = .ok (.bipush (-4), 2) := by decide +kernel
theorem dX2_init_21 : decode cX2_init 21 = .ok (.putfield 19, 3) := by decide +kernel
theorem dX2_init_24 : decode cX2_init 24 = .ok (.return_, 1) := by decide +kernel
set_option maxRecDepth 20000 in
theorem ggX2_reset_X2_endAt : GoodIn wsX2_reset wsX2_endAt := goodIn_r _ [12, 13, 14, 15, 16, 17, 18, 19, 20, 21, 22, 23, 24, 25] (by decide +kernel) (by decide +kernel)
set_option maxRecDepth 20000 in
theorem gX2_reset_X2_endAt : GoodIn wsX2_reset (wsV RX2 25 RX2 yX2_endAt wsX2_endAt) := goodIn_app (goodIn_of _ (by decide +kernel)) ggX2_reset_X2_endAt
theorem dX2_reset_0 : decode cX2_reset 0 = .ok (.iconst 0, 1) := by decide +kernel
theorem dX2_reset_1 : decode cX2_reset 1 = .ok (.istore_n 1, 1) := by decide +kernel
theorem dX2_reset_2 : decode cX2_reset 2 = .ok (.iload_n 1, 1) := by decide +kernel
theorem dX2_reset_3 : decode cX2_reset 3 = .ok (.bipush 9, 2) := by decide +kernel
theorem dX2_reset_5 : decode cX2_reset 5 = .ok (.if_icmp .gt 16, 3) := by decide +kernel
theorem dX2_reset_8 : decode cX2_reset 8 = .ok (.aload_n 0, 1) := by decide +kernel
theorem dX2_reset_9 : decode cX2_reset 9 = .ok (.getfield 9, 3) := by decide +kernel
theorem dX2_reset_12 : decode cX2_reset 12 = .ok (.iload_n 1, 1) := by decide +kernel
theorem dX2_reset_13 : decode cX2_reset 13 = .ok (.iconst 0, 1) := by decide +kernel
theorem dX2_reset_14 : decode cX2_reset 14 = .ok (.iastore, 1) := by decide +kernel
theorem dX2_reset_15 : decode cX2_reset 15 = .ok (.iinc 1 1, 3) := by decide +kernel
theorem dX2_reset_18 : decode cX2_reset 18 = .ok (.goto (-16), 3) := by decide +kernel
theorem dX2_reset_21 : decode cX2_reset 21 = .ok (.aload_n 0, 1) := by decide +kernel
theorem dX2_reset_22 : decode cX2_reset 22 = .ok (.iconst 0, 1) := by decide +kernel
theorem dX2_reset_23 : decode cX2_reset 23 = .ok (.putfield 22, 3) := by decide +kernel
theorem dX2_reset_26 : decode cX2_reset 26 = .ok (.aload_n 0, 1) := by decide +kernel
theorem dX2_reset_27 : decode cX2_reset 27 = .ok (.iconst 0, 1) := by decide +kernel
theorem dX2_reset_28 : decode cX2_reset 28 = .ok (.bipush (-4), 2) := by decide +kernel
theorem dX2_reset_30 : decode cX2_reset 30 = .ok (.bipush (-4), 2) := by decide +kernel
theorem dX2_reset_32 : decode cX2_reset 32 = .ok (.invokevirtual 25, 3) := by decide +kernel
theorem dX2_reset_35 : decode cX2_reset 35 = .ok (.aload_n 0, 1) := by decide +kernel
theorem dX2_reset_36 : decode cX2_reset 36 = .ok (.iconst 0, 1) := by decide +kernel
theorem dX2_reset_37 : decode cX2_reset 37 = .ok (.putfield 29, 3) := by decide +kernel
theorem dX2_reset_40 : decode cX2_reset 40 = .ok (.aload_n 0, 1) := by decide +kernel
theorem dX2_reset_41 : decode cX2_reset 41 = .ok (.iconst 0, 1) := by decide +kernel
theorem dX2_reset_42 : decode cX2_reset 42 = .ok (.putfield 32, 3) := by decide +kernel
theorem dX2_reset_45 : decode cX2_reset 45 = .ok (.aload_n 0, 1) := by decide +kernel
theorem dX2_reset_46 : decode cX2_reset 46 = .ok (.iconst 0, 1) := by decide +kernel
theorem dX2_reset_47 : decode cX2_reset 47 = .ok (.putfield 35, 3) := by decide +kernel
theorem dX2_reset_50 : decode cX2_reset 50 = .ok (.aload_n 0, 1) := by decide +kernel
theorem dX2_reset_51 : decode cX2_reset 51 = .ok (.iconst 0, 1) := by decide +kernel
theorem dX2_reset_52 : decode cX2_reset 52 = .ok (.putfield 38, 3) := by decide +kernel
theorem dX2_reset_55 : decode cX2_reset 55 = .ok (.aload_n 0, 1) := by decide +kernel
theorem dX2_reset_56 : decode cX2_reset 56 = .ok (.iconst 0, 1) := by decide +kernel
theorem dX2_reset_57 : decode cX2_reset 57 = .ok (.putfield 41, 3) := by decide +kernel
theorem dX2_reset_60 : decode cX2_reset 60 = .ok (.return_, 1) := by decide +kernel
theorem dX2_endAt_0 : decode cX2_endAt 0 = .ok (.aload_n 0, 1) := by decide +kernel
theorem dX2_endAt_1 : decode cX2_endAt 1 = .ok (.iload_n 1, 1) := by decide +kernel
theorem dX2_endAt_2 : decode cX2_endAt 2 = .ok (.putfield 44, 3) := by decide +kernel
theorem dX2_endAt_5 : decode cX2_endAt 5 = .ok (.aload_n 0, 1) := by decide +kernel
theorem dX2_endAt_6 : decode cX2_endAt 6 = .ok (.iload_n 2, 1) := by decide +kernel
theorem dX2_endAt_7 : decode cX2_endAt 7 = .ok (.putfield 15, 3) := by decide +kernel
theorem dX2_endAt_10 : decode cX2_endAt 10 = .ok (.aload_n 0, 1) := by decide +kernel
theorem dX2_endAt_11 : decode cX2_endAt 11 = .ok (.iload_n 3, 1) := by decide +kernel
theorem dX2_endAt_12 : decode cX2_endAt 12 = .ok (.putfield 19, 3) := by decide +kernel
theorem dX2_endAt_15 : decode cX2_endAt 15 = .ok (.return_, 1) := by decide +kernel
theorem dX2_steps_0 : decode cX2_steps 0 = .ok (.aload_n 0, 1) := by decide +kernel
theorem dX2_steps_1 : decode cX2_steps 1 = .ok (.getfield 29, 3) := by decide +kernel
theorem dX2_steps_4 : decode cX2_steps 4 = .ok (.ireturn, 1) := by decide +kernel
theorem dX2_countStep_0 : decode cX2_countStep 0 = .ok (.aload_n 0, 1) := by decide +kernel
theorem dX2_countStep_1 : decode cX2_countStep 1 = .ok (.dup, 1) := by decide +kernel
theorem dX2_countStep_2 : decode cX2_countStep 2 = .ok (.getfield 29, 3) := by decide +kernel
theorem dX2_countStep_5 : decode cX2_countStep 5 = .ok (.iconst 1, 1) := by decide +kernel
theorem dX2_countStep_6 : decode cX2_countStep 6 = .ok (.iadd, 1) := by decide +kernel
theorem dX2_countStep_7 : decode cX2_countStep 7 = .ok (.putfield 29, 3) := by decide +kernel
theorem dX2_countStep_10 : decode cX2_countStep 10 = .ok (.return_, 1) := by decide +kernel
theorem dX2_countCall_0 : decode cX2_countCall 0 = .ok (.aload_n 0, 1) := by decide +kernel
theorem dX2_countCall_1 : decode cX2_countCall 1 = .ok (.dup, 1) := by decide +kernel
theorem dX2_countCall_2 : decode cX2_countCall 2 = .ok (.getfield 41, 3) := by decide +kernel
theorem dX2_countCall_5 : decode cX2_countCall 5 = .ok (.iconst 1, 1) := by decide +kernel
theorem dX2_countCall_6 : decode cX2_countCall 6 = .ok (.iadd, 1) := by decide +kernel
theorem dX2_countCall_7 : decode cX2_countCall 7 = .ok (.putfield 41, 3) := by decide +kernel
theorem dX2_countCall_10 : decode cX2_countCall 10 = .ok (.return_, 1) := by decide +kernel
theorem dX2_openHold_0 : decode cX2_openHold 0 = .ok (.aload_n 0, 1) := by decide +kernel
theorem dX2_openHold_1 : decode cX2_openHold 1 = .ok (.dup, 1) := by decide +kernel
theorem dX2_openHold_2 : decode cX2_openHold 2 = .ok (.getfield 32, 3) := by decide +kernel
theorem dX2_openHold_5 : decode cX2_openHold 5 = .ok (.iconst 1, 1) := by decide +kernel
theorem dX2_openHold_6 : decode cX2_openHold 6 = .ok (.iadd, 1) := by decide +kernel
theorem dX2_openHold_7 : decode cX2_openHold 7 = .ok (.putfield 32, 3) := by decide +kernel
theorem dX2_openHold_10 : decode cX2_openHold 10 = .ok (.aload_n 0, 1) := by decide +kernel
theorem dX2_openHold_11 : decode cX2_openHold 11 = .ok (.dup, 1) := by decide +kernel
theorem dX2_openHold_12 : decode cX2_openHold 12 = .ok (.getfield 35, 3) := by decide +kernel
theorem dX2_openHold_15 : decode cX2_openHold 15 = .ok (.iconst 1, 1) := by decide +kernel
theorem dX2_openHold_16 : decode cX2_openHold 16 = .ok (.iadd, 1) := by decide +kernel
theorem dX2_openHold_17 : decode cX2_openHold 17 = .ok (.putfield 35, 3) := by decide +kernel
theorem dX2_openHold_20 : decode cX2_openHold 20 = .ok (.aload_n 0, 1) := by decide +kernel
theorem dX2_openHold_21 : decode cX2_openHold 21 = .ok (.aload_n 0, 1) := by decide +kernel
theorem dX2_openHold_22 : decode cX2_openHold 22 = .ok (.getfield 38, 3) := by decide +kernel
theorem dX2_openHold_25 : decode cX2_openHold 25 = .ok (.aload_n 0, 1) := by decide +kernel
theorem dX2_openHold_26 : decode cX2_openHold 26 = .ok (.getfield 35, 3) := by decide +kernel
theorem dX2_openHold_29 : decode cX2_openHold 29 = .ok (.invokestatic 47, 3) := by decide +kernel
theorem dX2_openHold_32 : decode cX2_openHold 32 = .ok (.putfield 38, 3) := by decide +kernel
theorem dX2_openHold_35 : decode cX2_openHold 35 = .ok (.return_, 1) := by decide +kernel
theorem dX2_closeHold_0 : decode cX2_closeHold 0 = .ok (.aload_n 0, 1) := by decide +kernel
theorem dX2_closeHold_1 : decode cX2_closeHold 1 = .ok (.dup, 1) := by decide +kernel
theorem dX2_closeHold_2 : decode cX2_closeHold 2 = .ok (.getfield 35, 3) := by decide +kernel
theorem dX2_closeHold_5 : decode cX2_closeHold 5 = .ok (.iconst 1, 1) := by decide +kernel
theorem dX2_closeHold_6 : decode cX2_closeHold 6 = .ok (.isub, 1) := by decide +kernel
theorem dX2_closeHold_7 : decode cX2_closeHold 7 = .ok (.putfield 35, 3) := by decide +kernel
theorem dX2_closeHold_10 : decode cX2_closeHold 10 = .ok (.return_, 1) := by decide +kernel
theorem dX2_countCaught_0 : decode cX2_countCaught 0 = .ok (.iload_n 1, 1) := by decide +kernel
theorem dX2_countCaught_1 : decode cX2_countCaught 1 = .ok (.ifCond .le 29, 3) := by decide +kernel
theorem dX2_countCaught_4 : decode cX2_countCaught 4 = .ok (.iload_n 1, 1) := by decide +kernel
theorem dX2_countCaught_5 : decode cX2_countCaught 5 = .ok (.bipush 9, 2) := by decide +kernel
theorem dX2_countCaught_7 : decode cX2_countCaught 7 = .ok (.if_icmp .gt 23, 3) := by decide +kernel
theorem dX2_countCaught_10 : decode cX2_countCaught 10 = .ok (.aload_n 0, 1) := by decide +kernel
theorem dX2_countCaught_11 : decode cX2_countCaught 11 = .ok (.getfield 9, 3) := by decide +kernel
theorem dX2_countCaught_14 : decode cX2_countCaught 14 = .ok (.iload_n 1, 1) := by decide +kernel
theorem dX2_countCaught_15 : decode cX2_countCaught 15 = .ok (.dup2, 1) := by decide +kernel
theorem dX2_countCaught_16 : decode cX2_countCaught 16 = .ok (.iaload, 1) := by decide +kernel
theorem dX2_countCaught_17 : decode cX2_countCaught 17 = .ok (.iconst 1, 1) := by decide +kernel
theorem dX2_countCaught_18 : decode cX2_countCaught 18 = .ok (.iadd, 1) := by decide +kernel
theorem dX2_countCaught_19 : decode cX2_countCaught 19 = .ok (.iastore, 1) := by decide +kernel
theorem dX2_countCaught_20 : decode cX2_countCaught 20 = .ok (.aload_n 0, 1) := by decide +kernel
theorem dX2_countCaught_21 : decode cX2_countCaught 21 = .ok (.dup, 1) := by decide +kernel
theorem dX2_countCaught_22 : decode cX2_countCaught 22 = .ok (.getfield 22, 3) := by decide +kernel
theorem dX2_countCaught_25 : decode cX2_countCaught 25 = .ok (.iconst 1, 1) := by decide +kernel
theorem dX2_countCaught_26 : decode cX2_countCaught 26 = .ok (.iadd, 1) := by decide +kernel
theorem dX2_countCaught_27 : decode cX2_countCaught 27 = .ok (.putfield 22, 3) := by decide +kernel
theorem dX2_countCaught_30 : decode cX2_countCaught 30 = .ok (.return_, 1) := by decide +kernel
theorem dX2_timesCaught_0 : decode cX2_timesCaught 0 = .ok (.iload_n 1, 1) := by decide +kernel
theorem dX2_timesCaught_1 : decode cX2_timesCaught 1 = .ok (.ifCond .le 18, 3) := by decide +kernel
theorem dX2_timesCaught_4 : decode cX2_timesCaught 4 = .ok (.iload_n 1, 1) := by decide +kernel
theorem dX2_timesCaught_5 : decode cX2_timesCaught 5 = .ok (.bipush 9, 2) := by decide +kernel
theorem dX2_timesCaught_7 : decode cX2_timesCaught 7 = .ok (.if_icmp .gt 12, 3) := by decide +kernel
theorem dX2_timesCaught_10 : decode cX2_timesCaught 10 = .ok (.aload_n 0, 1) := by decide +kernel
theorem dX2_timesCaught_11 : decode cX2_timesCaught 11 = .ok (.getfield 9, 3) := by decide +kernel
theorem dX2_timesCaught_14 : decode cX2_timesCaught 14 = .ok (.iload_n 1, 1) := by decide +kernel
theorem dX2_timesCaught_15 : decode cX2_timesCaught 15 = .ok (.iaload, 1) := by decide +kernel
theorem dX2_timesCaught_16 : decode cX2_timesCaught 16 = .ok (.goto 4, 3) := by decide +kernel
theorem dX2_timesCaught_19 : decode cX2_timesCaught 19 = .ok (.iconst (-1), 1) := by decide +kernel
theorem dX2_timesCaught_20 : decode cX2_timesCaught 20 = .ok (.ireturn, 1) := by decide +kernel
theorem dX2_number_0 : decode cX2_number 0 = .ok (.iload_n 1, 1) := by decide +kernel
theorem dX2_number_1 : decode cX2_number 1 = .ok (.tableswitch 87 0 7 #[47, 52, 57, 62, 67, 72, 77, 82], 47) := by decide +kernel
theorem dX2_number_48 : decode cX2_number 48 = .ok (.aload_n 0, 1) := by decide +kernel
theorem dX2_number_49 : decode cX2_number 49 = .ok (.getfield 44, 3) := by decide +kernel
theorem dX2_number_52 : decode cX2_number 52 = .ok (.ireturn, 1) := by decide +kernel
theorem dX2_number_53 : decode cX2_number 53 = .ok (.aload_n 0, 1) := by decide +kernel
theorem dX2_number_54 : decode cX2_number 54 = .ok (.getfield 15, 3) := by decide +kernel
theorem dX2_number_57 : decode cX2_number 57 = .ok (.ireturn, 1) := by decide +kernel
theorem dX2_number_58 : decode cX2_number 58 = .ok (.aload_n 0, 1) := by decide +kernel
theorem dX2_number_59 : decode cX2_number 59 = .ok (.getfield 19, 3) := by decide +kernel
theorem dX2_number_62 : decode cX2_number 62 = .ok (.ireturn, 1) := by decide +kernel
theorem dX2_number_63 : decode cX2_number 63 = .ok (.aload_n 0, 1) := by decide +kernel
theorem dX2_number_64 : decode cX2_number 64 = .ok (.getfield 29, 3) := by decide +kernel
theorem dX2_number_67 : decode cX2_number 67 = .ok (.ireturn, 1) := by decide +kernel
theorem dX2_number_68 : decode cX2_number 68 = .ok (.aload_n 0, 1) := by decide +kernel
theorem dX2_number_69 : decode cX2_number 69 = .ok (.getfield 32, 3) := by decide +kernel
theorem dX2_number_72 : decode cX2_number 72 = .ok (.ireturn, 1) := by decide +kernel
theorem dX2_number_73 : decode cX2_number 73 = .ok (.aload_n 0, 1) := by decide +kernel
theorem dX2_number_74 : decode cX2_number 74 = .ok (.getfield 38, 3) := by decide +kernel
theorem dX2_number_77 : decode cX2_number 77 = .ok (.ireturn, 1) := by decide +kernel
theorem dX2_number_78 : decode cX2_number 78 = .ok (.aload_n 0, 1) := by decide +kernel
theorem dX2_number_79 : decode cX2_number 79 = .ok (.getfield 22, 3) := by decide +kernel
theorem dX2_number_82 : decode cX2_number 82 = .ok (.ireturn, 1) := by decide +kernel
theorem dX2_number_83 : decode cX2_number 83 = .ok (.aload_n 0, 1) := by decide +kernel
theorem dX2_number_84 : decode cX2_number 84 = .ok (.getfield 41, 3) := by decide +kernel
theorem dX2_number_87 : decode cX2_number 87 = .ok (.ireturn, 1) := by decide +kernel
theorem dX2_number_88 : decode cX2_number 88 = .ok (.iconst (-1), 1) := by decide +kernel
theorem dX2_number_89 : decode cX2_number 89 = .ok (.ireturn, 1) := by decide +kernel
theorem dJ9_max_7cf53_0 : decode cJ9_max_7cf53 0 = .ok (.iload_n 0, 1) := by decide +kernel
theorem dJ9_max_7cf53_1 : decode cJ9_max_7cf53 1 = .ok (.iload_n 1, 1) := by decide +kernel
theorem dJ9_max_7cf53_2 : decode cJ9_max_7cf53 2 = .ok (.if_icmp .lt 7, 3) := by decide +kernel
theorem dJ9_max_7cf53_5 : decode cJ9_max_7cf53 5 = .ok (.iload_n 0, 1) := by decide +kernel
theorem dJ9_max_7cf53_6 : decode cJ9_max_7cf53 6 = .ok (.goto 4, 3) := by decide +kernel
theorem dJ9_max_7cf53_9 : decode cJ9_max_7cf53 9 = .ok (.iload_n 1, 1) := by decide +kernel
theorem dJ9_max_7cf53_10 : decode cJ9_max_7cf53 10 = .ok (.ireturn, 1) := by decide +kernel
