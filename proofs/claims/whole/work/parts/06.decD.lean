theorem dX5_init_0 : decode cX5_init 0 = .ok (.aload_n 0, 1) := by decide +kernel
theorem dX5_init_1 : decode cX5_init 1 = .ok (.invokespecial 1, 3) := by decide +kernel
theorem dX5_init_4 : decode cX5_init 4 = .ok (.aload_n 0, 1) := by decide +kernel
theorem dX5_init_5 : decode cX5_init 5 = .ok (.bipush 6, 2) := by decide +kernel
theorem dX5_init_7 : decode cX5_init 7 = .ok (.newarray .int, 2) := by decide +kernel
theorem dX5_init_9 : decode cX5_init 9 = .ok (.putfield 7, 3) := by decide +kernel
theorem dX5_init_12 : decode cX5_init 12 = .ok (.aload_n 0, 1) := by decide +kernel
theorem dX5_init_13 : decode cX5_init 13 = .ok (.sipush 240, 3) := by decide +kernel
theorem dX5_init_16 : decode cX5_init 16 = .ok (.newarray .int, 2) := by decide +kernel
theorem dX5_init_18 : decode cX5_init 18 = .ok (.putfield 13, 3) := by decide +kernel
theorem dX5_init_21 : decode cX5_init 21 = .ok (.aload_n 0, 1) := by decide +kernel
theorem dX5_init_22 : decode cX5_init 22 = .ok (.sipush 240, 3) := by decide +kernel
theorem dX5_init_25 : decode cX5_init 25 = .ok (.newarray .int, 2) := by decide +kernel
theorem dX5_init_27 : decode cX5_init 27 = .ok (.putfield 16, 3) := by decide +kernel
theorem dX5_init_30 : decode cX5_init 30 = .ok (.aload_n 0, 1) := by decide +kernel
theorem dX5_init_31 : decode cX5_init 31 = .ok (.sipush 240, 3) := by decide +kernel
theorem dX5_init_34 : decode cX5_init 34 = .ok (.newarray .int, 2) := by decide +kernel
theorem dX5_init_36 : decode cX5_init 36 = .ok (.putfield 19, 3) := by decide +kernel
theorem dX5_init_39 : decode cX5_init 39 = .ok (.aload_n 0, 1) := by decide +kernel
theorem dX5_init_40 : decode cX5_init 40 = .ok (.sipush 240, 3) := by decide +kernel
theorem dX5_init_43 : decode cX5_init 43 = .ok (.newarray .int, 2) := by decide +kernel
theorem dX5_init_45 : decode cX5_init 45 = .ok (.putfield 22, 3) := by decide +kernel
theorem dX5_init_48 : decode cX5_init 48 = .ok (.aload_n 0, 1) := by decide +kernel
theorem dX5_init_49 : decode cX5_init 49 = .ok (.bipush 8, 2) := by decide +kernel
theorem dX5_init_51 : decode cX5_init 51 = .ok (.newarray .boolean, 2) := by decide +kernel
theorem dX5_init_53 : decode cX5_init 53 = .ok (.putfield 25, 3) := by decide +kernel
theorem dX5_init_56 : decode cX5_init 56 = .ok (.aload_n 0, 1) := by decide +kernel
theorem dX5_init_57 : decode cX5_init 57 = .ok (.bipush 8, 2) := by decide +kernel
theorem dX5_init_59 : decode cX5_init 59 = .ok (.newarray .int, 2) := by decide +kernel
theorem dX5_init_61 : decode cX5_init 61 = .ok (.putfield 29, 3) := by decide +kernel
theorem dX5_init_64 : decode cX5_init 64 = .ok (.aload_n 0, 1) := by decide +kernel
theorem dX5_init_65 : decode cX5_init 65 = .ok (.bipush 8, 2) := by decide +kernel
theorem dX5_init_67 : decode cX5_init 67 = .ok (.newarray .int, 2) := by decide +kernel
theorem dX5_init_69 : decode cX5_init 69 = .ok (.putfield 32, 3) := by decide +kernel
theorem dX5_init_72 : decode cX5_init 72 = .ok (.aload_n 0, 1) := by decide +kernel
theorem dX5_init_73 : decode cX5_init 73 = .ok (.bipush 8, 2) := by decide +kernel
theorem dX5_init_75 : decode cX5_init 75 = .ok (.newarray .int, 2) := by decide +kernel
theorem dX5_init_77 : decode cX5_init 77 = .ok (.putfield 35, 3) := by decide +kernel
theorem dX5_init_80 : decode cX5_init 80 = .ok (.aload_n 0, 1) := by decide +kernel
theorem dX5_init_81 : decode cX5_init 81 = .ok (.bipush 8, 2) := by decide +kernel
theorem dX5_init_83 : decode cX5_init 83 = .ok (.newarray .int, 2) := by decide +kernel
theorem dX5_init_85 : decode cX5_init 85 = .ok (.putfield 38, 3) := by decide +kernel
theorem dX5_init_88 : decode cX5_init 88 = .ok (.aload_n 0, 1) := by decide +kernel
theorem dX5_init_89 : decode cX5_init 89 = .ok (.bipush 10, 2) := by decide +kernel
theorem dX5_init_91 : decode cX5_init 91 = .ok (.newarray .int, 2) := by decide +kernel
theorem dX5_init_93 : decode cX5_init 93 = .ok (.putfield 41, 3) := by decide +kernel
theorem dX5_init_96 : decode cX5_init 96 = .ok (.aload_n 0, 1) := by decide +kernel
theorem dX5_init_97 : decode cX5_init 97 = .ok (.iconst 5, 1) := by decide +kernel
theorem dX5_init_98 : decode cX5_init 98 = .ok (.newarray .int, 2) := by decide +kernel
theorem dX5_init_100 : decode cX5_init 100 = .ok (.putfield 44, 3) := by decide +kernel
theorem dX5_init_103 : decode cX5_init 103 = .ok (.aload_n 0, 1) := by decide +kernel
theorem dX5_init_104 : decode cX5_init 104 = .ok (.iconst 5, 1) := by decide +kernel
theorem dX5_init_105 : decode cX5_init 105 = .ok (.newarray .int, 2) := by decide +kernel
theorem dX5_init_107 : decode cX5_init 107 = .ok (.putfield 47, 3) := by decide +kernel
theorem dX5_init_110 : decode cX5_init 110 = .ok (.aload_n 0, 1) := by decide +kernel
theorem dX5_init_111 : decode cX5_init 111 = .ok (.sipush 128, 3) := by decide +kernel
theorem dX5_init_114 : decode cX5_init 114 = .ok (.newarray .int, 2) := by decide +kernel
theorem dX5_init_116 : decode cX5_init 116 = .ok (.putfield 50, 3) := by decide +kernel
theorem dX5_init_119 : decode cX5_init 119 = .ok (.aload_n 0, 1) := by decide +kernel
theorem dX5_init_120 : decode cX5_init 120 = .ok (.sipush 128, 3) := by decide +kernel
theorem dX5_init_123 : decode cX5_init 123 = .ok (.newarray .int, 2) := by decide +kernel
theorem dX5_init_125 : decode cX5_init 125 = .ok (.putfield 53, 3) := by decide +kernel
theorem dX5_init_128 : decode cX5_init 128 = .ok (.aload_n 0, 1) := by decide +kernel
theorem dX5_init_129 : decode cX5_init 129 = .ok (.sipush 128, 3) := by decide +kernel
theorem dX5_init_132 : decode cX5_init 132 = .ok (.newarray .int, 2) := by decide +kernel
theorem dX5_init_134 : decode cX5_init 134 = .ok (.putfield 56, 3) := by decide +kernel
theorem dX5_init_137 : decode cX5_init 137 = .ok (.iconst 0, 1) := by decide +kernel
theorem dX5_init_138 : decode cX5_init 138 = .ok (.istore_n 1, 1) := by decide +kernel
theorem dX5_init_139 : decode cX5_init 139 = .ok (.iload_n 1, 1) := by decide +kernel
theorem dX5_init_140 : decode cX5_init 140 = .ok (.iconst 4, 1) := by decide +kernel
theorem dX5_init_141 : decode cX5_init 141 = .ok (.if_icmp .ge 16, 3) := by decide +kernel
theorem dX5_init_144 : decode cX5_init 144 = .ok (.aload_n 0, 1) := by decide +kernel
theorem dX5_init_145 : decode cX5_init 145 = .ok (.getfield 25, 3) := by decide +kernel
theorem dX5_init_148 : decode cX5_init 148 = .ok (.iload_n 1, 1) := by decide +kernel
theorem dX5_init_149 : decode cX5_init 149 = .ok (.iconst 1, 1) := by decide +kernel
theorem dX5_init_150 : decode cX5_init 150 = .ok (.bastore, 1) := by decide +kernel
theorem dX5_init_151 : decode cX5_init 151 = .ok (.iinc 1 1, 3) := by decide +kernel
theorem dX5_init_154 : decode cX5_init 154 = .ok (.goto (-15), 3) := by decide +kernel
theorem dX5_init_157 : decode cX5_init 157 = .ok (.aload_n 0, 1) := by decide +kernel
theorem dX5_init_158 : decode cX5_init 158 = .ok (.getfield 38, 3) := by decide +kernel
theorem dX5_init_161 : decode cX5_init 161 = .ok (.iconst 1, 1) := by decide +kernel
theorem dX5_init_162 : decode cX5_init 162 = .ok (.bipush (-4), 2) := by decide +kernel
theorem dX5_init_164 : decode cX5_init 164 = .ok (.iastore, 1) := by decide +kernel
theorem dX5_init_165 : decode cX5_init 165 = .ok (.aload_n 0, 1) := by decide +kernel
theorem dX5_init_166 : decode cX5_init 166 = .ok (.getfield 38, 3) := by decide +kernel
theorem dX5_init_169 : decode cX5_init 169 = .ok (.iconst 2, 1) := by decide +kernel
theorem dX5_init_170 : decode cX5_init 170 = .ok (.bipush (-4), 2) := by decide +kernel
theorem dX5_init_172 : decode cX5_init 172 = .ok (.iastore, 1) := by decide +kernel
theorem dX5_init_173 : decode cX5_init 173 = .ok (.return_, 1) := by decide +kernel
theorem dX5_in_0 : decode cX5_in 0 = .ok (.iload_n 0, 1) := by decide +kernel
theorem dX5_in_1 : decode cX5_in 1 = .ok (.iload_n 1, 1) := by decide +kernel
theorem dX5_in_2 : decode cX5_in 2 = .ok (.if_icmp .lt 12, 3) := by decide +kernel
theorem dX5_in_5 : decode cX5_in 5 = .ok (.iload_n 0, 1) := by decide +kernel
theorem dX5_in_6 : decode cX5_in 6 = .ok (.iload_n 2, 1) := by decide +kernel
theorem dX5_in_7 : decode cX5_in 7 = .ok (.if_icmp .gt 7, 3) := by decide +kernel
theorem dX5_in_10 : decode cX5_in 10 = .ok (.iconst 1, 1) := by decide +kernel
theorem dX5_in_11 : decode cX5_in 11 = .ok (.goto 4, 3) := by decide +kernel
theorem dX5_in_14 : decode cX5_in 14 = .ok (.iconst 0, 1) := by decide +kernel
theorem dX5_in_15 : decode cX5_in 15 = .ok (.ireturn, 1) := by decide +kernel
set_option maxRecDepth 20000 in
theorem ggX5_isPlan_X5_in : GoodIn wsX5_isPlan wsX5_in := goodIn_r _ [4] (by decide +kernel) (by decide +kernel)
set_option maxRecDepth 20000 in
theorem gX5_isPlan_X5_in : GoodIn wsX5_isPlan (va_wsS RX5 63 yX5_in wsX5_in) := goodIn_app (goodIn_of _ (by decide +kernel)) ggX5_isPlan_X5_in
theorem dX5_isPlan_0 : decode cX5_isPlan 0 = .ok (.iload_n 0, 1) := by decide +kernel
theorem dX5_isPlan_1 : decode cX5_isPlan 1 = .ok (.iconst 0, 1) := by decide +kernel
theorem dX5_isPlan_2 : decode cX5_isPlan 2 = .ok (.iconst 5, 1) := by decide +kernel
theorem dX5_isPlan_3 : decode cX5_isPlan 3 = .ok (.invokestatic 63, 3) := by decide +kernel
theorem dX5_isPlan_6 : decode cX5_isPlan 6 = .ok (.ireturn, 1) := by decide +kernel
set_option maxRecDepth 20000 in
theorem ggX5_isDigit_X5_in : GoodIn wsX5_isDigit wsX5_in := goodIn_r _ [4] (by decide +kernel) (by decide +kernel)
set_option maxRecDepth 20000 in
theorem gX5_isDigit_X5_in : GoodIn wsX5_isDigit (va_wsS RX5 63 yX5_in wsX5_in) := goodIn_app (goodIn_of _ (by decide +kernel)) ggX5_isDigit_X5_in
theorem dX5_isDigit_0 : decode cX5_isDigit 0 = .ok (.iload_n 0, 1) := by decide +kernel
theorem dX5_isDigit_1 : decode cX5_isDigit 1 = .ok (.iconst 0, 1) := by decide +kernel
theorem dX5_isDigit_2 : decode cX5_isDigit 2 = .ok (.bipush 9, 2) := by decide +kernel
theorem dX5_isDigit_4 : decode cX5_isDigit 4 = .ok (.invokestatic 63, 3) := by decide +kernel
theorem dX5_isDigit_7 : decode cX5_isDigit 7 = .ok (.ireturn, 1) := by decide +kernel
set_option maxRecDepth 20000 in
theorem ggX5_fits_X5_in : GoodIn wsX5_fits wsX5_in := goodIn_r _ [4] (by decide +kernel) (by decide +kernel)
set_option maxRecDepth 20000 in
theorem gX5_fits_X5_in : GoodIn wsX5_fits (va_wsS RX5 63 yX5_in wsX5_in) := goodIn_app (goodIn_of _ (by decide +kernel)) ggX5_fits_X5_in
set_option maxRecDepth 20000 in
theorem ggX5_fits_X5_isDigit : GoodIn wsX5_fits wsX5_isDigit := goodIn_r _ [7, 1, 2, 3, 4] (by decide +kernel) (by decide +kernel)
set_option maxRecDepth 20000 in
theorem gX5_fits_X5_isDigit : GoodIn wsX5_fits (va_wsS RX5 67 yX5_isDigit wsX5_isDigit) := goodIn_app (goodIn_of _ (by decide +kernel)) ggX5_fits_X5_isDigit
theorem dX5_fits_0 : decode cX5_fits 0 = .ok (.iload_n 0, 1) := by decide +kernel
theorem dX5_fits_1 : decode cX5_fits 1 = .ok (.iconst 2, 1) := by decide +kernel
theorem dX5_fits_2 : decode cX5_fits 2 = .ok (.if_icmp .eq 9, 3) := by decide +kernel
theorem dX5_fits_5 : decode cX5_fits 5 = .ok (.iload_n 0, 1) := by decide +kernel
theorem dX5_fits_6 : decode cX5_fits 6 = .ok (.bipush 9, 2) := by decide +kernel
theorem dX5_fits_8 : decode cX5_fits 8 = .ok (.if_icmp .ne 5, 3) := by decide +kernel
theorem dX5_fits_11 : decode cX5_fits 11 = .ok (.iconst 1, 1) := by decide +kernel
theorem dX5_fits_12 : decode cX5_fits 12 = .ok (.ireturn, 1) := by decide +kernel
theorem dX5_fits_13 : decode cX5_fits 13 = .ok (.iload_n 0, 1) := by decide +kernel
theorem dX5_fits_14 : decode cX5_fits 14 = .ok (.bipush 7, 2) := by decide +kernel
theorem dX5_fits_16 : decode cX5_fits 16 = .ok (.if_icmp .ne 12, 3) := by decide +kernel
theorem dX5_fits_19 : decode cX5_fits 19 = .ok (.iload_n 1, 1) := by decide +kernel
theorem dX5_fits_20 : decode cX5_fits 20 = .ok (.bipush 7, 2) := by decide +kernel
theorem dX5_fits_22 : decode cX5_fits 22 = .ok (.bipush 9, 2) := by decide +kernel
theorem dX5_fits_24 : decode cX5_fits 24 = .ok (.invokestatic 63, 3) := by decide +kernel
theorem dX5_fits_27 : decode cX5_fits 27 = .ok (.ireturn, 1) := by decide +kernel
theorem dX5_fits_28 : decode cX5_fits 28 = .ok (.iload_n 0, 1) := by decide +kernel
theorem dX5_fits_29 : decode cX5_fits 29 = .ok (.iconst 3, 1) := by decide +kernel
theorem dX5_fits_30 : decode cX5_fits 30 = .ok (.bipush 6, 2) := by decide +kernel
theorem dX5_fits_32 : decode cX5_fits 32 = .ok (.invokestatic 63, 3) := by decide +kernel
theorem dX5_fits_35 : decode cX5_fits 35 = .ok (.istore 4, 2) := by decide +kernel
theorem dX5_fits_37 : decode cX5_fits 37 = .ok (.iload_n 1, 1) := by decide +kernel
theorem dX5_fits_38 : decode cX5_fits 38 = .ok (.invokestatic 67, 3) := by decide +kernel
theorem dX5_fits_41 : decode cX5_fits 41 = .ok (.ifCond .eq 32, 3) := by decide +kernel
theorem dX5_fits_44 : decode cX5_fits 44 = .ok (.iload 4, 2) := by decide +kernel
theorem dX5_fits_46 : decode cX5_fits 46 = .ok (.ifCond .eq 10, 3) := by decide +kernel
theorem dX5_fits_49 : decode cX5_fits 49 = .ok (.iload_n 2, 1) := by decide +kernel
theorem dX5_fits_50 : decode cX5_fits 50 = .ok (.invokestatic 67, 3) := by decide +kernel
theorem dX5_fits_53 : decode cX5_fits 53 = .ok (.ifCond .eq 20, 3) := by decide +kernel
theorem dX5_fits_56 : decode cX5_fits 56 = .ok (.iload_n 0, 1) := by decide +kernel
theorem dX5_fits_57 : decode cX5_fits 57 = .ok (.bipush 6, 2) := by decide +kernel
theorem dX5_fits_59 : decode cX5_fits 59 = .ok (.if_icmp .ne 10, 3) := by decide +kernel
theorem dX5_fits_62 : decode cX5_fits 62 = .ok (.iload_n 3, 1) := by decide +kernel
theorem dX5_fits_63 : decode cX5_fits 63 = .ok (.invokestatic 67, 3) := by decide +kernel
theorem dX5_fits_66 : decode cX5_fits 66 = .ok (.ifCond .eq 7, 3) := by decide +kernel
theorem dX5_fits_69 : decode cX5_fits 69 = .ok (.iconst 1, 1) := by decide +kernel
theorem dX5_fits_70 : decode cX5_fits 70 = .ok (.goto 4, 3) := by decide +kernel
theorem dX5_fits_73 : decode cX5_fits 73 = .ok (.iconst 0, 1) := by decide +kernel
theorem dX5_fits_74 : decode cX5_fits 74 = .ok (.ireturn, 1) := by decide +kernel
set_option maxRecDepth 20000 in
theorem ggX5_act_X5_isPlan : GoodIn wsX5_act wsX5_isPlan := goodIn_r _ [10, 11, 12, 9, 13] (by decide +kernel) (by decide +kernel)
set_option maxRecDepth 20000 in
theorem gX5_act_X5_isPlan : GoodIn wsX5_act (va_wsS RX5 71 yX5_isPlan wsX5_isPlan) := goodIn_app (goodIn_of _ (by decide +kernel)) ggX5_act_X5_isPlan
set_option maxRecDepth 20000 in
theorem ggX5_act_X5_in : GoodIn wsX5_act wsX5_in := goodIn_r _ [13] (by decide +kernel) (by decide +kernel)
set_option maxRecDepth 20000 in
theorem gX5_act_X5_in : GoodIn wsX5_act (va_wsS RX5 63 yX5_in wsX5_in) := goodIn_app (goodIn_of _ (by decide +kernel)) ggX5_act_X5_in
set_option maxRecDepth 20000 in
theorem ggX5_act_X5_fits : GoodIn wsX5_act wsX5_fits := goodIn_r _ [16, 11, 12, 9, 13, 17, 18, 19] (by decide +kernel) (by decide +kernel)
set_option maxRecDepth 20000 in
theorem gX5_act_X5_fits : GoodIn wsX5_act (va_wsS RX5 74 yX5_fits wsX5_fits) := goodIn_app (goodIn_of _ (by decide +kernel)) ggX5_act_X5_fits
theorem dX5_act_0 : decode cX5_act 0 = .ok (.aload_n 0, 1) := by decide +kernel
theorem dX5_act_1 : decode cX5_act 1 = .ok (.iconst 0, 1) := by decide +kernel
theorem dX5_act_2 : decode cX5_act 2 = .ok (.putfield 59, 3) := by decide +kernel
theorem dX5_act_5 : decode cX5_act 5 = .ok (.iload_n 1, 1) := by decide +kernel
theorem dX5_act_6 : decode cX5_act 6 = .ok (.invokestatic 71, 3) := by decide +kernel
theorem dX5_act_9 : decode cX5_act 9 = .ok (.ifCond .eq 25, 3) := by decide +kernel
theorem dX5_act_12 : decode cX5_act 12 = .ok (.iload_n 2, 1) := by decide +kernel
theorem dX5_act_13 : decode cX5_act 13 = .ok (.iconst 0, 1) := by decide +kernel
theorem dX5_act_14 : decode cX5_act 14 = .ok (.bipush 9, 2) := by decide +kernel
theorem dX5_act_16 : decode cX5_act 16 = .ok (.invokestatic 63, 3) := by decide +kernel
theorem dX5_act_19 : decode cX5_act 19 = .ok (.ifCond .eq 15, 3) := by decide +kernel
theorem dX5_act_22 : decode cX5_act 22 = .ok (.iload_n 2, 1) := by decide +kernel
theorem dX5_act_23 : decode cX5_act 23 = .ok (.iload_n 3, 1) := by decide +kernel
theorem dX5_act_24 : decode cX5_act 24 = .ok (.iload 4, 2) := by decide +kernel
theorem dX5_act_26 : decode cX5_act 26 = .ok (.iload 5, 2) := by decide +kernel
theorem dX5_act_28 : decode cX5_act 28 = .ok (.invokestatic 74, 3) := by decide +kernel
theorem dX5_act_31 : decode cX5_act 31 = .ok (.ifCond .ne 5, 3) := by decide +kernel
theorem dX5_act_34 : decode cX5_act 34 = .ok (.iconst (-1), 1) := by decide +kernel
theorem dX5_act_35 : decode cX5_act 35 = .ok (.ireturn, 1) := by decide +kernel
theorem dX5_act_36 : decode cX5_act 36 = .ok (.aload_n 0, 1) := by decide +kernel
theorem dX5_act_37 : decode cX5_act 37 = .ok (.getfield 7, 3) := by decide +kernel
theorem dX5_act_40 : decode cX5_act 40 = .ok (.iload_n 1, 1) := by decide +kernel
theorem dX5_act_41 : decode cX5_act 41 = .ok (.iaload, 1) := by decide +kernel
theorem dX5_act_42 : decode cX5_act 42 = .ok (.bipush 40, 2) := by decide +kernel
theorem dX5_act_44 : decode cX5_act 44 = .ok (.if_icmp .ne 6, 3) := by decide +kernel
theorem dX5_act_47 : decode cX5_act 47 = .ok (.bipush (-2), 2) := by decide +kernel
theorem dX5_act_49 : decode cX5_act 49 = .ok (.ireturn, 1) := by decide +kernel
theorem dX5_act_50 : decode cX5_act 50 = .ok (.bipush 40, 2) := by decide +kernel
theorem dX5_act_52 : decode cX5_act 52 = .ok (.iload_n 1, 1) := by decide +kernel
theorem dX5_act_53 : decode cX5_act 53 = .ok (.imul, 1) := by decide +kernel
theorem dX5_act_54 : decode cX5_act 54 = .ok (.aload_n 0, 1) := by decide +kernel
theorem dX5_act_55 : decode cX5_act 55 = .ok (.getfield 7, 3) := by decide +kernel
theorem dX5_act_58 : decode cX5_act 58 = .ok (.iload_n 1, 1) := by decide +kernel
theorem dX5_act_59 : decode cX5_act 59 = .ok (.iaload, 1) := by decide +kernel
theorem dX5_act_60 : decode cX5_act 60 = .ok (.iadd, 1) := by decide +kernel
theorem dX5_act_61 : decode cX5_act 61 = .ok (.istore 6, 2) := by decide +kernel
theorem dX5_act_63 : decode cX5_act 63 = .ok (.aload_n 0, 1) := by decide +kernel
theorem dX5_act_64 : decode cX5_act 64 = .ok (.getfield 13, 3) := by decide +kernel
theorem dX5_act_67 : decode cX5_act 67 = .ok (.iload 6, 2) := by decide +kernel
theorem dX5_act_69 : decode cX5_act 69 = .ok (.iload_n 2, 1) := by decide +kernel
theorem dX5_act_70 : decode cX5_act 70 = .ok (.iastore, 1) := by decide +kernel
theorem dX5_act_71 : decode cX5_act 71 = .ok (.aload_n 0, 1) := by decide +kernel
theorem dX5_act_72 : decode cX5_act 72 = .ok (.getfield 16, 3) := by decide +kernel
theorem dX5_act_75 : decode cX5_act 75 = .ok (.iload 6, 2) := by decide +kernel
theorem dX5_act_77 : decode cX5_act 77 = .ok (.iload_n 3, 1) := by decide +kernel
theorem dX5_act_78 : decode cX5_act 78 = .ok (.iastore, 1) := by decide +kernel
theorem dX5_act_79 : decode cX5_act 79 = .ok (.aload_n 0, 1) := by decide +kernel
theorem dX5_act_80 : decode cX5_act 80 = .ok (.getfield 19, 3) := by decide +kernel
theorem dX5_act_83 : decode cX5_act 83 = .ok (.iload 6, 2) := by decide +kernel
theorem dX5_act_85 : decode cX5_act 85 = .ok (.iload 4, 2) := by decide +kernel
theorem dX5_act_87 : decode cX5_act 87 = .ok (.iastore, 1) := by decide +kernel
theorem dX5_act_88 : decode cX5_act 88 = .ok (.aload_n 0, 1) := by decide +kernel
theorem dX5_act_89 : decode cX5_act 89 = .ok (.getfield 22, 3) := by decide +kernel
theorem dX5_act_92 : decode cX5_act 92 = .ok (.iload 6, 2) := by decide +kernel
theorem dX5_act_94 : decode cX5_act 94 = .ok (.iload 5, 2) := by decide +kernel
theorem dX5_act_96 : decode cX5_act 96 = .ok (.iastore, 1) := by decide +kernel
theorem dX5_act_97 : decode cX5_act 97 = .ok (.aload_n 0, 1) := by decide +kernel
theorem dX5_act_98 : decode cX5_act 98 = .ok (.getfield 7, 3) := by decide +kernel
theorem dX5_act_101 : decode cX5_act 101 = .ok (.iload_n 1, 1) := by decide +kernel
theorem dX5_act_102 : decode cX5_act 102 = .ok (.dup2, 1) := by decide +kernel
theorem dX5_act_103 : decode cX5_act 103 = .ok (.iaload, 1) := by decide +kernel
theorem dX5_act_104 : decode cX5_act 104 = .ok (.iconst 1, 1) := by decide +kernel
theorem dX5_act_105 : decode cX5_act 105 = .ok (.iadd, 1) := by decide +kernel
theorem dX5_act_106 : decode cX5_act 106 = .ok (.iastore, 1) := by decide +kernel
theorem dX5_act_107 : decode cX5_act 107 = .ok (.aload_n 0, 1) := by decide +kernel
theorem dX5_act_108 : decode cX5_act 108 = .ok (.getfield 7, 3) := by decide +kernel
theorem dX5_act_111 : decode cX5_act 111 = .ok (.iload_n 1, 1) := by decide +kernel
theorem dX5_act_112 : decode cX5_act 112 = .ok (.iaload, 1) := by decide +kernel
theorem dX5_act_113 : decode cX5_act 113 = .ok (.iconst 1, 1) := by decide +kernel
theorem dX5_act_114 : decode cX5_act 114 = .ok (.isub, 1) := by decide +kernel
theorem dX5_act_115 : decode cX5_act 115 = .ok (.ireturn, 1) := by decide +kernel
set_option maxRecDepth 20000 in
theorem ggX5_clear_X5_isPlan : GoodIn wsX5_clear wsX5_isPlan := goodIn_r _ [6, 7, 8, 5, 9] (by decide +kernel) (by decide +kernel)
set_option maxRecDepth 20000 in
theorem gX5_clear_X5_isPlan : GoodIn wsX5_clear (va_wsS RX5 71 yX5_isPlan wsX5_isPlan) := goodIn_app (goodIn_of _ (by decide +kernel)) ggX5_clear_X5_isPlan
theorem dX5_clear_0 : decode cX5_clear 0 = .ok (.aload_n 0, 1) := by decide +kernel
theorem dX5_clear_1 : decode cX5_clear 1 = .ok (.iconst 0, 1) := by decide +kernel
theorem dX5_clear_2 : decode cX5_clear 2 = .ok (.putfield 59, 3) := by decide +kernel
theorem dX5_clear_5 : decode cX5_clear 5 = .ok (.iload_n 1, 1) := by decide +kernel
theorem dX5_clear_6 : decode cX5_clear 6 = .ok (.invokestatic 71, 3) := by decide +kernel
theorem dX5_clear_9 : decode cX5_clear 9 = .ok (.ifCond .ne 5, 3) := by decide +kernel
theorem dX5_clear_12 : decode cX5_clear 12 = .ok (.iconst (-1), 1) := by decide +kernel
theorem dX5_clear_13 : decode cX5_clear 13 = .ok (.ireturn, 1) := by decide +kernel
theorem dX5_clear_14 : decode cX5_clear 14 = .ok (.aload_n 0, 1) := by decide +kernel
theorem dX5_clear_15 : decode cX5_clear 15 = .ok (.getfield 7, 3) := by decide +kernel
theorem dX5_clear_18 : decode cX5_clear 18 = .ok (.iload_n 1, 1) := by decide +kernel
theorem dX5_clear_19 : decode cX5_clear 19 = .ok (.iaload, 1) := by decide +kernel
theorem dX5_clear_20 : decode cX5_clear 20 = .ok (.istore_n 2, 1) := by decide +kernel
theorem dX5_clear_21 : decode cX5_clear 21 = .ok (.aload_n 0, 1) := by decide +kernel
theorem dX5_clear_22 : decode cX5_clear 22 = .ok (.getfield 7, 3) := by decide +kernel
theorem dX5_clear_25 : decode cX5_clear 25 = .ok (.iload_n 1, 1) := by decide +kernel
theorem dX5_clear_26 : decode cX5_clear 26 = .ok (.iconst 0, 1) := by decide +kernel
theorem dX5_clear_27 : decode cX5_clear 27 = .ok (.iastore, 1) := by decide +kernel
theorem dX5_clear_28 : decode cX5_clear 28 = .ok (.iload_n 2, 1) := by decide +kernel
theorem dX5_clear_29 : decode cX5_clear 29 = .ok (.ireturn, 1) := by decide +kernel
theorem dX5_isClosed_0 : decode cX5_isClosed 0 = .ok (.iconst 0, 1) := by decide +kernel
theorem dX5_isClosed_1 : decode cX5_isClosed 1 = .ok (.istore_n 2, 1) := by decide +kernel
theorem dX5_isClosed_2 : decode cX5_isClosed 2 = .ok (.iconst 0, 1) := by decide +kernel
theorem dX5_isClosed_3 : decode cX5_isClosed 3 = .ok (.istore_n 3, 1) := by decide +kernel
theorem dX5_isClosed_4 : decode cX5_isClosed 4 = .ok (.iload_n 3, 1) := by decide +kernel
theorem dX5_isClosed_5 : decode cX5_isClosed 5 = .ok (.aload_n 0, 1) := by decide +kernel
theorem dX5_isClosed_6 : decode cX5_isClosed 6 = .ok (.getfield 7, 3) := by decide +kernel
theorem dX5_isClosed_9 : decode cX5_isClosed 9 = .ok (.iload_n 1, 1) := by decide +kernel
theorem dX5_isClosed_10 : decode cX5_isClosed 10 = .ok (.iaload, 1) := by decide +kernel
theorem dX5_isClosed_11 : decode cX5_isClosed 11 = .ok (.if_icmp .ge 50, 3) := by decide +kernel
theorem dX5_isClosed_14 : decode cX5_isClosed 14 = .ok (.iload_n 2, 1) := by decide +kernel
theorem dX5_isClosed_15 : decode cX5_isClosed 15 = .ok (.ifCond .lt 46, 3) := by decide +kernel
theorem dX5_isClosed_18 : decode cX5_isClosed 18 = .ok (.aload_n 0, 1) := by decide +kernel
theorem dX5_isClosed_19 : decode cX5_isClosed 19 = .ok (.getfield 13, 3) := by decide +kernel
theorem dX5_isClosed_22 : decode cX5_isClosed 22 = .ok (.bipush 40, 2) := by decide +kernel
theorem dX5_isClosed_24 : decode cX5_isClosed 24 = .ok (.iload_n 1, 1) := by decide +kernel
theorem dX5_isClosed_25 : decode cX5_isClosed 25 = .ok (.imul, 1) := by decide +kernel
theorem dX5_isClosed_26 : decode cX5_isClosed 26 = .ok (.iload_n 3, 1) := by decide +kernel
theorem dX5_isClosed_27 : decode cX5_isClosed 27 = .ok (.iadd, 1) := by decide +kernel
theorem dX5_isClosed_28 : decode cX5_isClosed 28 = .ok (.iaload, 1) := by decide +kernel
theorem dX5_isClosed_29 : decode cX5_isClosed 29 = .ok (.istore 4, 2) := by decide +kernel
theorem dX5_isClosed_31 : decode cX5_isClosed 31 = .ok (.iload_n 2, 1) := by decide +kernel
theorem dX5_isClosed_32 : decode cX5_isClosed 32 = .ok (.iload 4, 2) := by decide +kernel
theorem dX5_isClosed_34 : decode cX5_isClosed 34 = .ok (.iconst 1, 1) := by decide +kernel
theorem dX5_isClosed_35 : decode cX5_isClosed 35 = .ok (.if_icmp .gt 7, 3) := by decide +kernel
theorem dX5_isClosed_38 : decode cX5_isClosed 38 = .ok (.iconst 1, 1) := by decide +kernel
theorem dX5_isClosed_39 : decode cX5_isClosed 39 = .ok (.goto 14, 3) := by decide +kernel
theorem dX5_isClosed_42 : decode cX5_isClosed 42 = .ok (.iload 4, 2) := by decide +kernel
theorem dX5_isClosed_44 : decode cX5_isClosed 44 = .ok (.iconst 2, 1) := by decide +kernel
theorem dX5_isClosed_45 : decode cX5_isClosed 45 = .ok (.if_icmp .ne 7, 3) := by decide +kernel
theorem dX5_isClosed_48 : decode cX5_isClosed 48 = .ok (.iconst (-1), 1) := by decide +kernel
theorem dX5_isClosed_49 : decode cX5_isClosed 49 = .ok (.goto 4, 3) := by decide +kernel
theorem dX5_isClosed_52 : decode cX5_isClosed 52 = .ok (.iconst 0, 1) := by decide +kernel
theorem dX5_isClosed_53 : decode cX5_isClosed 53 = .ok (.iadd, 1) := by decide +kernel
theorem dX5_isClosed_54 : decode cX5_isClosed 54 = .ok (.istore_n 2, 1) := by decide +kernel
theorem dX5_isClosed_55 : decode cX5_isClosed 55 = .ok (.iinc 3 1, 3) := by decide +kernel
theorem dX5_isClosed_58 : decode cX5_isClosed 58 = .ok (.goto (-54), 3) := by decide +kernel
theorem dX5_isClosed_61 : decode cX5_isClosed 61 = .ok (.iload_n 2, 1) := by decide +kernel
theorem dX5_isClosed_62 : decode cX5_isClosed 62 = .ok (.ifCond .ne 7, 3) := by decide +kernel
theorem dX5_isClosed_65 : decode cX5_isClosed 65 = .ok (.iconst 1, 1) := by decide +kernel
theorem dX5_isClosed_66 : decode cX5_isClosed 66 = .ok (.goto 4, 3) := by decide +kernel
theorem dX5_isClosed_69 : decode cX5_isClosed 69 = .ok (.iconst 0, 1) := by decide +kernel
theorem dX5_isClosed_70 : decode cX5_isClosed 70 = .ok (.ireturn, 1) := by decide +kernel
set_option maxRecDepth 20000 in
theorem ggX5_closed_X5_isPlan : GoodIn wsX5_closed wsX5_isPlan := goodIn_r _ [5, 6, 7, 4, 8] (by decide +kernel) (by decide +kernel)
set_option maxRecDepth 20000 in
theorem gX5_closed_X5_isPlan : GoodIn wsX5_closed (va_wsS RX5 71 yX5_isPlan wsX5_isPlan) := goodIn_app (goodIn_of _ (by decide +kernel)) ggX5_closed_X5_isPlan
set_option maxRecDepth 20000 in
theorem ggX5_closed_X5_isClosed : GoodIn wsX5_closed wsX5_isClosed := goodIn_r _ [12, 13, 14, 15, 16, 17, 18, 19, 20, 21, 22, 23, 24, 25, 26, 27, 28, 29, 30, 31, 32, 33, 34, 35] (by decide +kernel) (by decide +kernel)
set_option maxRecDepth 20000 in
theorem gX5_closed_X5_isClosed : GoodIn wsX5_closed (wsV RX5 78 RX5 yX5_isClosed wsX5_isClosed) := goodIn_app (goodIn_of _ (by decide +kernel)) ggX5_closed_X5_isClosed
theorem dX5_closed_0 : decode cX5_closed 0 = .ok (.aload_n 0, 1) := by decide +kernel
theorem dX5_closed_1 : decode cX5_closed 1 = .ok (.iconst 0, 1) := by decide +kernel
theorem dX5_closed_2 : decode cX5_closed 2 = .ok (.putfield 59, 3) := by decide +kernel
theorem dX5_closed_5 : decode cX5_closed 5 = .ok (.iload_n 1, 1) := by decide +kernel
theorem dX5_closed_6 : decode cX5_closed 6 = .ok (.invokestatic 71, 3) := by decide +kernel
theorem dX5_closed_9 : decode cX5_closed 9 = .ok (.ifCond .ne 7, 3) := by decide +kernel
theorem dX5_closed_12 : decode cX5_closed 12 = .ok (.iconst (-1), 1) := by decide +kernel
theorem dX5_closed_13 : decode cX5_closed 13 = .ok (.goto 16, 3) := by decide +kernel
theorem dX5_closed_16 : decode cX5_closed 16 = .ok (.aload_n 0, 1) := by decide +kernel
theorem dX5_closed_17 : decode cX5_closed 17 = .ok (.iload_n 1, 1) := by decide +kernel
theorem dX5_closed_18 : decode cX5_closed 18 = .ok (.invokevirtual 78, 3) := by decide +kernel
theorem dX5_closed_21 : decode cX5_closed 21 = .ok (.ifCond .eq 7, 3) := by decide +kernel
theorem dX5_closed_24 : decode cX5_closed 24 = .ok (.iconst 1, 1) := by decide +kernel
theorem dX5_closed_25 : decode cX5_closed 25 = .ok (.goto 4, 3) := by decide +kernel
theorem dX5_closed_28 : decode cX5_closed 28 = .ok (.iconst 0, 1) := by decide +kernel
theorem dX5_closed_29 : decode cX5_closed 29 = .ok (.ireturn, 1) := by decide +kernel
set_option maxRecDepth 20000 in
theorem ggX5_shelf_X5_in : GoodIn wsX5_shelf wsX5_in := goodIn_r _ [8] (by decide +kernel) (by decide +kernel)
set_option maxRecDepth 20000 in
theorem gX5_shelf_X5_in : GoodIn wsX5_shelf (va_wsS RX5 63 yX5_in wsX5_in) := goodIn_app (goodIn_of _ (by decide +kernel)) ggX5_shelf_X5_in
theorem dX5_shelf_0 : decode cX5_shelf 0 = .ok (.aload_n 0, 1) := by decide +kernel
theorem dX5_shelf_1 : decode cX5_shelf 1 = .ok (.iconst 0, 1) := by decide +kernel
theorem dX5_shelf_2 : decode cX5_shelf 2 = .ok (.putfield 59, 3) := by decide +kernel
theorem dX5_shelf_5 : decode cX5_shelf 5 = .ok (.iload_n 1, 1) := by decide +kernel
theorem dX5_shelf_6 : decode cX5_shelf 6 = .ok (.iconst 0, 1) := by decide +kernel
theorem dX5_shelf_7 : decode cX5_shelf 7 = .ok (.bipush 7, 2) := by decide +kernel
theorem dX5_shelf_9 : decode cX5_shelf 9 = .ok (.invokestatic 63, 3) := by decide +kernel
theorem dX5_shelf_12 : decode cX5_shelf 12 = .ok (.ifCond .eq 14, 3) := by decide +kernel
theorem dX5_shelf_15 : decode cX5_shelf 15 = .ok (.iload_n 2, 1) := by decide +kernel
theorem dX5_shelf_16 : decode cX5_shelf 16 = .ok (.iconst (-1), 1) := by decide +kernel
theorem dX5_shelf_17 : decode cX5_shelf 17 = .ok (.sipush 1000, 3) := by decide +kernel
theorem dX5_shelf_20 : decode cX5_shelf 20 = .ok (.invokestatic 63, 3) := by decide +kernel
theorem dX5_shelf_23 : decode cX5_shelf 23 = .ok (.ifCond .ne 5, 3) := by decide +kernel
theorem dX5_shelf_26 : decode cX5_shelf 26 = .ok (.iconst (-1), 1) := by decide +kernel
theorem dX5_shelf_27 : decode cX5_shelf 27 = .ok (.ireturn, 1) := by decide +kernel
theorem dX5_shelf_28 : decode cX5_shelf 28 = .ok (.aload_n 0, 1) := by decide +kernel
theorem dX5_shelf_29 : decode cX5_shelf 29 = .ok (.getfield 25, 3) := by decide +kernel
theorem dX5_shelf_32 : decode cX5_shelf 32 = .ok (.iload_n 1, 1) := by decide +kernel
theorem dX5_shelf_33 : decode cX5_shelf 33 = .ok (.baload, 1) := by decide +kernel
theorem dX5_shelf_34 : decode cX5_shelf 34 = .ok (.ifCond .eq 12, 3) := by decide +kernel
theorem dX5_shelf_37 : decode cX5_shelf 37 = .ok (.aload_n 0, 1) := by decide +kernel
theorem dX5_shelf_38 : decode cX5_shelf 38 = .ok (.getfield 29, 3) := by decide +kernel
theorem dX5_shelf_41 : decode cX5_shelf 41 = .ok (.iload_n 1, 1) := by decide +kernel
theorem dX5_shelf_42 : decode cX5_shelf 42 = .ok (.iaload, 1) := by decide +kernel
theorem dX5_shelf_43 : decode cX5_shelf 43 = .ok (.goto 5, 3) := by decide +kernel
theorem dX5_shelf_46 : decode cX5_shelf 46 = .ok (.bipush (-4), 2) := by decide +kernel
theorem dX5_shelf_48 : decode cX5_shelf 48 = .ok (.istore_n 3, 1) := by decide +kernel
theorem dX5_shelf_49 : decode cX5_shelf 49 = .ok (.aload_n 0, 1) := by decide +kernel
theorem dX5_shelf_50 : decode cX5_shelf 50 = .ok (.getfield 25, 3) := by decide +kernel
theorem dX5_shelf_53 : decode cX5_shelf 53 = .ok (.iload_n 1, 1) := by decide +kernel
theorem dX5_shelf_54 : decode cX5_shelf 54 = .ok (.iload_n 2, 1) := by decide +kernel
theorem dX5_shelf_55 : decode cX5_shelf 55 = .ok (.ifCond .lt 7, 3) := by decide +kernel
theorem dX5_shelf_58 : decode cX5_shelf 58 = .ok (.iconst 1, 1) := by decide +kernel
theorem dX5_shelf_59 : decode cX5_shelf 59 = .ok (.goto 4, 3) := by decide +kernel
theorem dX5_shelf_62 : decode cX5_shelf 62 = .ok (.iconst 0, 1) := by decide +kernel
theorem dX5_shelf_63 : decode cX5_shelf 63 = .ok (.bastore, 1) := by decide +kernel
theorem dX5_shelf_64 : decode cX5_shelf 64 = .ok (.aload_n 0, 1) := by decide +kernel
theorem dX5_shelf_65 : decode cX5_shelf 65 = .ok (.getfield 29, 3) := by decide +kernel
theorem dX5_shelf_68 : decode cX5_shelf 68 = .ok (.iload_n 1, 1) := by decide +kernel
theorem dX5_shelf_69 : decode cX5_shelf 69 = .ok (.iload_n 2, 1) := by decide +kernel
theorem dX5_shelf_70 : decode cX5_shelf 70 = .ok (.ifCond .ge 7, 3) := by decide +kernel
theorem dX5_shelf_73 : decode cX5_shelf 73 = .ok (.iconst 0, 1) := by decide +kernel
theorem dX5_shelf_74 : decode cX5_shelf 74 = .ok (.goto 4, 3) := by decide +kernel
theorem dX5_shelf_77 : decode cX5_shelf 77 = .ok (.iload_n 2, 1) := by decide +kernel
theorem dX5_shelf_78 : decode cX5_shelf 78 = .ok (.iastore, 1) := by decide +kernel
theorem dX5_shelf_79 : decode cX5_shelf 79 = .ok (.aload_n 0, 1) := by decide +kernel
theorem dX5_shelf_80 : decode cX5_shelf 80 = .ok (.getfield 32, 3) := by decide +kernel
theorem dX5_shelf_83 : decode cX5_shelf 83 = .ok (.iload_n 1, 1) := by decide +kernel
theorem dX5_shelf_84 : decode cX5_shelf 84 = .ok (.iconst 0, 1) := by decide +kernel
theorem dX5_shelf_85 : decode cX5_shelf 85 = .ok (.iastore, 1) := by decide +kernel
theorem dX5_shelf_86 : decode cX5_shelf 86 = .ok (.iload_n 3, 1) := by decide +kernel
theorem dX5_shelf_87 : decode cX5_shelf 87 = .ok (.ireturn, 1) := by decide +kernel
theorem dX5_begins_0 : decode cX5_begins 0 = .ok (.aload_n 0, 1) := by decide +kernel
theorem dX5_begins_1 : decode cX5_begins 1 = .ok (.getfield 50, 3) := by decide +kernel
theorem dX5_begins_4 : decode cX5_begins 4 = .ok (.aload_n 0, 1) := by decide +kernel
theorem dX5_begins_5 : decode cX5_begins 5 = .ok (.getfield 81, 3) := by decide +kernel
theorem dX5_begins_8 : decode cX5_begins 8 = .ok (.iload_n 1, 1) := by decide +kernel
theorem dX5_begins_9 : decode cX5_begins 9 = .ok (.iastore, 1) := by decide +kernel
theorem dX5_begins_10 : decode cX5_begins 10 = .ok (.aload_n 0, 1) := by decide +kernel
theorem dX5_begins_11 : decode cX5_begins 11 = .ok (.getfield 53, 3) := by decide +kernel
theorem dX5_begins_14 : decode cX5_begins 14 = .ok (.aload_n 0, 1) := by decide +kernel
theorem dX5_begins_15 : decode cX5_begins 15 = .ok (.getfield 81, 3) := by decide +kernel
theorem dX5_begins_18 : decode cX5_begins 18 = .ok (.iload_n 2, 1) := by decide +kernel
theorem dX5_begins_19 : decode cX5_begins 19 = .ok (.iastore, 1) := by decide +kernel
theorem dX5_begins_20 : decode cX5_begins 20 = .ok (.aload_n 0, 1) := by decide +kernel
theorem dX5_begins_21 : decode cX5_begins 21 = .ok (.getfield 56, 3) := by decide +kernel
theorem dX5_begins_24 : decode cX5_begins 24 = .ok (.aload_n 0, 1) := by decide +kernel
theorem dX5_begins_25 : decode cX5_begins 25 = .ok (.getfield 81, 3) := by decide +kernel
theorem dX5_begins_28 : decode cX5_begins 28 = .ok (.aload_n 0, 1) := by decide +kernel
theorem dX5_begins_29 : decode cX5_begins 29 = .ok (.getfield 84, 3) := by decide +kernel
theorem dX5_begins_32 : decode cX5_begins 32 = .ok (.iastore, 1) := by decide +kernel
theorem dX5_begins_33 : decode cX5_begins 33 = .ok (.aload_n 0, 1) := by decide +kernel
theorem dX5_begins_34 : decode cX5_begins 34 = .ok (.dup, 1) := by decide +kernel
theorem dX5_begins_35 : decode cX5_begins 35 = .ok (.getfield 81, 3) := by decide +kernel
theorem dX5_begins_38 : decode cX5_begins 38 = .ok (.iconst 1, 1) := by decide +kernel
theorem dX5_begins_39 : decode cX5_begins 39 = .ok (.iadd, 1) := by decide +kernel
theorem dX5_begins_40 : decode cX5_begins 40 = .ok (.putfield 81, 3) := by decide +kernel
theorem dX5_begins_43 : decode cX5_begins 43 = .ok (.return_, 1) := by decide +kernel
theorem dX5_behind_0 : decode cX5_behind 0 = .ok (.iconst 1, 1) := by decide +kernel
theorem dX5_behind_1 : decode cX5_behind 1 = .ok (.istore_n 3, 1) := by decide +kernel
theorem dX5_behind_2 : decode cX5_behind 2 = .ok (.iload_n 2, 1) := by decide +kernel
theorem dX5_behind_3 : decode cX5_behind 3 = .ok (.iconst 1, 1) := by decide +kernel
theorem dX5_behind_4 : decode cX5_behind 4 = .ok (.iadd, 1) := by decide +kernel
theorem dX5_behind_5 : decode cX5_behind 5 = .ok (.istore 4, 2) := by decide +kernel
theorem dX5_behind_7 : decode cX5_behind 7 = .ok (.iload_n 3, 1) := by decide +kernel
theorem dX5_behind_8 : decode cX5_behind 8 = .ok (.ifCond .le 47, 3) := by decide +kernel
theorem dX5_behind_11 : decode cX5_behind 11 = .ok (.aload_n 0, 1) := by decide +kernel
theorem dX5_behind_12 : decode cX5_behind 12 = .ok (.getfield 13, 3) := by decide +kernel
theorem dX5_behind_15 : decode cX5_behind 15 = .ok (.bipush 40, 2) := by decide +kernel
theorem dX5_behind_17 : decode cX5_behind 17 = .ok (.iload_n 1, 1) := by decide +kernel
theorem dX5_behind_18 : decode cX5_behind 18 = .ok (.imul, 1) := by decide +kernel
theorem dX5_behind_19 : decode cX5_behind 19 = .ok (.iload 4, 2) := by decide +kernel
theorem dX5_behind_21 : decode cX5_behind 21 = .ok (.iadd, 1) := by decide +kernel
theorem dX5_behind_22 : decode cX5_behind 22 = .ok (.iaload, 1) := by decide +kernel
theorem dX5_behind_23 : decode cX5_behind 23 = .ok (.istore 5, 2) := by decide +kernel
theorem dX5_behind_25 : decode cX5_behind 25 = .ok (.iload_n 3, 1) := by decide +kernel
theorem dX5_behind_26 : decode cX5_behind 26 = .ok (.iload 5, 2) := by decide +kernel
theorem dX5_behind_28 : decode cX5_behind 28 = .ok (.iconst 1, 1) := by decide +kernel
theorem dX5_behind_29 : decode cX5_behind 29 = .ok (.if_icmp .gt 7, 3) := by decide +kernel
theorem dX5_behind_32 : decode cX5_behind 32 = .ok (.iconst 1, 1) := by decide +kernel
theorem dX5_behind_33 : decode cX5_behind 33 = .ok (.goto 14, 3) := by decide +kernel
theorem dX5_behind_36 : decode cX5_behind 36 = .ok (.iload 5, 2) := by decide +kernel
theorem dX5_behind_38 : decode cX5_behind 38 = .ok (.iconst 2, 1) := by decide +kernel
theorem dX5_behind_39 : decode cX5_behind 39 = .ok (.if_icmp .ne 7, 3) := by decide +kernel
theorem dX5_behind_42 : decode cX5_behind 42 = .ok (.iconst (-1), 1) := by decide +kernel
theorem dX5_behind_43 : decode cX5_behind 43 = .ok (.goto 4, 3) := by decide +kernel
theorem dX5_behind_46 : decode cX5_behind 46 = .ok (.iconst 0, 1) := by decide +kernel
theorem dX5_behind_47 : decode cX5_behind 47 = .ok (.iadd, 1) := by decide +kernel
theorem dX5_behind_48 : decode cX5_behind 48 = .ok (.istore_n 3, 1) := by decide +kernel
theorem dX5_behind_49 : decode cX5_behind 49 = .ok (.iinc 4 1, 3) := by decide +kernel
theorem dX5_behind_52 : decode cX5_behind 52 = .ok (.goto (-45), 3) := by decide +kernel
theorem dX5_behind_55 : decode cX5_behind 55 = .ok (.iload 4, 2) := by decide +kernel
theorem dX5_behind_57 : decode cX5_behind 57 = .ok (.ireturn, 1) := by decide +kernel
theorem dX5_closes_0 : decode cX5_closes 0 = .ok (.aload_n 0, 1) := by decide +kernel
theorem dX5_closes_1 : decode cX5_closes 1 = .ok (.dup, 1) := by decide +kernel
theorem dX5_closes_2 : decode cX5_closes 2 = .ok (.getfield 81, 3) := by decide +kernel
theorem dX5_closes_5 : decode cX5_closes 5 = .ok (.iconst 1, 1) := by decide +kernel
theorem dX5_closes_6 : decode cX5_closes 6 = .ok (.isub, 1) := by decide +kernel
theorem dX5_closes_7 : decode cX5_closes 7 = .ok (.putfield 81, 3) := by decide +kernel
theorem dX5_closes_10 : decode cX5_closes 10 = .ok (.aload_n 0, 1) := by decide +kernel
theorem dX5_closes_11 : decode cX5_closes 11 = .ok (.getfield 50, 3) := by decide +kernel
theorem dX5_closes_14 : decode cX5_closes 14 = .ok (.aload_n 0, 1) := by decide +kernel
theorem dX5_closes_15 : decode cX5_closes 15 = .ok (.getfield 81, 3) := by decide +kernel
theorem dX5_closes_18 : decode cX5_closes 18 = .ok (.iaload, 1) := by decide +kernel
theorem dX5_closes_19 : decode cX5_closes 19 = .ok (.istore_n 2, 1) := by decide +kernel
theorem dX5_closes_20 : decode cX5_closes 20 = .ok (.iload_n 2, 1) := by decide +kernel
theorem dX5_closes_21 : decode cX5_closes 21 = .ok (.bipush 10, 2) := by decide +kernel
theorem dX5_closes_23 : decode cX5_closes 23 = .ok (.if_icmp .ge 41, 3) := by decide +kernel
theorem dX5_closes_26 : decode cX5_closes 26 = .ok (.aload_n 0, 1) := by decide +kernel
theorem dX5_closes_27 : decode cX5_closes 27 = .ok (.getfield 35, 3) := by decide +kernel
theorem dX5_closes_30 : decode cX5_closes 30 = .ok (.iload_n 2, 1) := by decide +kernel
theorem dX5_closes_31 : decode cX5_closes 31 = .ok (.dup2, 1) := by decide +kernel
theorem dX5_closes_32 : decode cX5_closes 32 = .ok (.iaload, 1) := by decide +kernel
theorem dX5_closes_33 : decode cX5_closes 33 = .ok (.iconst 1, 1) := by decide +kernel
theorem dX5_closes_34 : decode cX5_closes 34 = .ok (.isub, 1) := by decide +kernel
theorem dX5_closes_35 : decode cX5_closes 35 = .ok (.iastore, 1) := by decide +kernel
theorem dX5_closes_36 : decode cX5_closes 36 = .ok (.aload_n 0, 1) := by decide +kernel
theorem dX5_closes_37 : decode cX5_closes 37 = .ok (.dup, 1) := by decide +kernel
theorem dX5_closes_38 : decode cX5_closes 38 = .ok (.getfield 87, 3) := by decide +kernel
theorem dX5_closes_41 : decode cX5_closes 41 = .ok (.iconst 1, 1) := by decide +kernel
theorem dX5_closes_42 : decode cX5_closes 42 = .ok (.isub, 1) := by decide +kernel
theorem dX5_closes_43 : decode cX5_closes 43 = .ok (.putfield 87, 3) := by decide +kernel
theorem dX5_closes_46 : decode cX5_closes 46 = .ok (.aload_n 0, 1) := by decide +kernel
theorem dX5_closes_47 : decode cX5_closes 47 = .ok (.getfield 32, 3) := by decide +kernel
theorem dX5_closes_50 : decode cX5_closes 50 = .ok (.iload_n 2, 1) := by decide +kernel
theorem dX5_closes_51 : decode cX5_closes 51 = .ok (.dup2, 1) := by decide +kernel
theorem dX5_closes_52 : decode cX5_closes 52 = .ok (.iaload, 1) := by decide +kernel
theorem dX5_closes_53 : decode cX5_closes 53 = .ok (.iload_n 1, 1) := by decide +kernel
theorem dX5_closes_54 : decode cX5_closes 54 = .ok (.ifCond .eq 7, 3) := by decide +kernel
theorem dX5_closes_57 : decode cX5_closes 57 = .ok (.iconst 1, 1) := by decide +kernel
theorem dX5_closes_58 : decode cX5_closes 58 = .ok (.goto 4, 3) := by decide +kernel
theorem dX5_closes_61 : decode cX5_closes 61 = .ok (.iconst 0, 1) := by decide +kernel
theorem dX5_closes_62 : decode cX5_closes 62 = .ok (.iadd, 1) := by decide +kernel
theorem dX5_closes_63 : decode cX5_closes 63 = .ok (.iastore, 1) := by decide +kernel
theorem dX5_closes_64 : decode cX5_closes 64 = .ok (.return_, 1) := by decide +kernel
theorem dX5_wrongShelf_0 : decode cX5_wrongShelf 0 = .ok (.iload_n 1, 1) := by decide +kernel
theorem dX5_wrongShelf_1 : decode cX5_wrongShelf 1 = .ok (.bipush 7, 2) := by decide +kernel
theorem dX5_wrongShelf_3 : decode cX5_wrongShelf 3 = .ok (.if_icmp .le 7, 3) := by decide +kernel
theorem dX5_wrongShelf_6 : decode cX5_wrongShelf 6 = .ok (.iconst 1, 1) := by decide +kernel
theorem dX5_wrongShelf_7 : decode cX5_wrongShelf 7 = .ok (.goto 17, 3) := by decide +kernel
theorem dX5_wrongShelf_10 : decode cX5_wrongShelf 10 = .ok (.aload_n 0, 1) := by decide +kernel
theorem dX5_wrongShelf_11 : decode cX5_wrongShelf 11 = .ok (.getfield 25, 3) := by decide +kernel
theorem dX5_wrongShelf_14 : decode cX5_wrongShelf 14 = .ok (.iload_n 1, 1) := by decide +kernel
theorem dX5_wrongShelf_15 : decode cX5_wrongShelf 15 = .ok (.baload, 1) := by decide +kernel
theorem dX5_wrongShelf_16 : decode cX5_wrongShelf 16 = .ok (.ifCond .ne 7, 3) := by decide +kernel
theorem dX5_wrongShelf_19 : decode cX5_wrongShelf 19 = .ok (.iconst 2, 1) := by decide +kernel
theorem dX5_wrongShelf_20 : decode cX5_wrongShelf 20 = .ok (.goto 4, 3) := by decide +kernel
theorem dX5_wrongShelf_23 : decode cX5_wrongShelf 23 = .ok (.iconst 0, 1) := by decide +kernel
theorem dX5_wrongShelf_24 : decode cX5_wrongShelf 24 = .ok (.ireturn, 1) := by decide +kernel
set_option maxRecDepth 20000 in
theorem ggX5_hold_X5_wrongShelf : GoodIn wsX5_hold wsX5_wrongShelf := goodIn_r _ [8, 9, 19, 20, 21, 22, 23, 24, 25, 26, 27, 28, 29, 30, 31, 32, 33, 34, 35, 36, 37, 38, 39] (by decide +kernel) (by decide +kernel)
set_option maxRecDepth 20000 in
theorem gX5_hold_X5_wrongShelf : GoodIn wsX5_hold (wsV RX5 90 RX5 yX5_wrongShelf wsX5_wrongShelf) := goodIn_app (goodIn_of _ (by decide +kernel)) ggX5_hold_X5_wrongShelf
set_option maxRecDepth 20000 in
theorem ggX5_hold_X5_begins : GoodIn wsX5_hold wsX5_begins := goodIn_r _ [13, 14, 15, 16, 17, 18, 19, 20, 21, 22, 23, 24, 25, 26, 27, 28, 29, 30, 31, 32, 33, 34, 35, 36, 37, 38, 39] (by decide +kernel) (by decide +kernel)
set_option maxRecDepth 20000 in
theorem gX5_hold_X5_begins : GoodIn wsX5_hold (wsV RX5 94 RX5 yX5_begins wsX5_begins) := goodIn_app (goodIn_of _ (by decide +kernel)) ggX5_hold_X5_begins
theorem dX5_hold_0 : decode cX5_hold 0 = .ok (.aload_n 0, 1) := by decide +kernel
theorem dX5_hold_1 : decode cX5_hold 1 = .ok (.iload_n 1, 1) := by decide +kernel
theorem dX5_hold_2 : decode cX5_hold 2 = .ok (.invokevirtual 90, 3) := by decide +kernel
theorem dX5_hold_5 : decode cX5_hold 5 = .ok (.istore_n 3, 1) := by decide +kernel
theorem dX5_hold_6 : decode cX5_hold 6 = .ok (.iload_n 3, 1) := by decide +kernel
theorem dX5_hold_7 : decode cX5_hold 7 = .ok (.ifCond .ne 71, 3) := by decide +kernel
theorem dX5_hold_10 : decode cX5_hold 10 = .ok (.aload_n 0, 1) := by decide +kernel
theorem dX5_hold_11 : decode cX5_hold 11 = .ok (.iload_n 1, 1) := by decide +kernel
theorem dX5_hold_12 : decode cX5_hold 12 = .ok (.iload_n 2, 1) := by decide +kernel
theorem dX5_hold_13 : decode cX5_hold 13 = .ok (.invokevirtual 94, 3) := by decide +kernel
theorem dX5_hold_16 : decode cX5_hold 16 = .ok (.aload_n 0, 1) := by decide +kernel
theorem dX5_hold_17 : decode cX5_hold 17 = .ok (.getfield 35, 3) := by decide +kernel
theorem dX5_hold_20 : decode cX5_hold 20 = .ok (.iload_n 1, 1) := by decide +kernel
theorem dX5_hold_21 : decode cX5_hold 21 = .ok (.dup2, 1) := by decide +kernel
theorem dX5_hold_22 : decode cX5_hold 22 = .ok (.iaload, 1) := by decide +kernel
theorem dX5_hold_23 : decode cX5_hold 23 = .ok (.iconst 1, 1) := by decide +kernel
theorem dX5_hold_24 : decode cX5_hold 24 = .ok (.iadd, 1) := by decide +kernel
theorem dX5_hold_25 : decode cX5_hold 25 = .ok (.iastore, 1) := by decide +kernel
theorem dX5_hold_26 : decode cX5_hold 26 = .ok (.aload_n 0, 1) := by decide +kernel
theorem dX5_hold_27 : decode cX5_hold 27 = .ok (.dup, 1) := by decide +kernel
theorem dX5_hold_28 : decode cX5_hold 28 = .ok (.getfield 87, 3) := by decide +kernel
theorem dX5_hold_31 : decode cX5_hold 31 = .ok (.iconst 1, 1) := by decide +kernel
theorem dX5_hold_32 : decode cX5_hold 32 = .ok (.iadd, 1) := by decide +kernel
theorem dX5_hold_33 : decode cX5_hold 33 = .ok (.putfield 87, 3) := by decide +kernel
theorem dX5_hold_36 : decode cX5_hold 36 = .ok (.aload_n 0, 1) := by decide +kernel
theorem dX5_hold_37 : decode cX5_hold 37 = .ok (.getfield 38, 3) := by decide +kernel
theorem dX5_hold_40 : decode cX5_hold 40 = .ok (.iconst 4, 1) := by decide +kernel
theorem dX5_hold_41 : decode cX5_hold 41 = .ok (.dup2, 1) := by decide +kernel
theorem dX5_hold_42 : decode cX5_hold 42 = .ok (.iaload, 1) := by decide +kernel
theorem dX5_hold_43 : decode cX5_hold 43 = .ok (.iconst 1, 1) := by decide +kernel
theorem dX5_hold_44 : decode cX5_hold 44 = .ok (.iadd, 1) := by decide +kernel
theorem dX5_hold_45 : decode cX5_hold 45 = .ok (.iastore, 1) := by decide +kernel
theorem dX5_hold_46 : decode cX5_hold 46 = .ok (.aload_n 0, 1) := by decide +kernel
theorem dX5_hold_47 : decode cX5_hold 47 = .ok (.getfield 38, 3) := by decide +kernel
theorem dX5_hold_50 : decode cX5_hold 50 = .ok (.iconst 5, 1) := by decide +kernel
theorem dX5_hold_51 : decode cX5_hold 51 = .ok (.aload_n 0, 1) := by decide +kernel
theorem dX5_hold_52 : decode cX5_hold 52 = .ok (.getfield 87, 3) := by decide +kernel
theorem dX5_hold_55 : decode cX5_hold 55 = .ok (.aload_n 0, 1) := by decide +kernel
theorem dX5_hold_56 : decode cX5_hold 56 = .ok (.getfield 38, 3) := by decide +kernel
theorem dX5_hold_59 : decode cX5_hold 59 = .ok (.iconst 5, 1) := by decide +kernel
theorem dX5_hold_60 : decode cX5_hold 60 = .ok (.iaload, 1) := by decide +kernel
theorem dX5_hold_61 : decode cX5_hold 61 = .ok (.if_icmp .le 10, 3) := by decide +kernel
theorem dX5_hold_64 : decode cX5_hold 64 = .ok (.aload_n 0, 1) := by decide +kernel
theorem dX5_hold_65 : decode cX5_hold 65 = .ok (.getfield 87, 3) := by decide +kernel
theorem dX5_hold_68 : decode cX5_hold 68 = .ok (.goto 9, 3) := by decide +kernel
theorem dX5_hold_71 : decode cX5_hold 71 = .ok (.aload_n 0, 1) := by decide +kernel
theorem dX5_hold_72 : decode cX5_hold 72 = .ok (.getfield 38, 3) := by decide +kernel
theorem dX5_hold_75 : decode cX5_hold 75 = .ok (.iconst 5, 1) := by decide +kernel
theorem dX5_hold_76 : decode cX5_hold 76 = .ok (.iaload, 1) := by decide +kernel
theorem dX5_hold_77 : decode cX5_hold 77 = .ok (.iastore, 1) := by decide +kernel
theorem dX5_hold_78 : decode cX5_hold 78 = .ok (.iload_n 3, 1) := by decide +kernel
theorem dX5_hold_79 : decode cX5_hold 79 = .ok (.ireturn, 1) := by decide +kernel
set_option maxRecDepth 20000 in
theorem ggX5_change_X5_wrongShelf : GoodIn wsX5_change wsX5_wrongShelf := goodIn_r _ [8, 9, 10, 11, 12, 13, 14, 15, 16, 17, 18, 19, 20, 21, 22, 23, 24, 25, 26, 27, 28, 29, 30] (by decide +kernel) (by decide +kernel)
set_option maxRecDepth 20000 in
theorem gX5_change_X5_wrongShelf : GoodIn wsX5_change (wsV RX5 90 RX5 yX5_wrongShelf wsX5_wrongShelf) := goodIn_app (goodIn_of _ (by decide +kernel)) ggX5_change_X5_wrongShelf
theorem dX5_change_0 : decode cX5_change 0 = .ok (.aload_n 0, 1) := by decide +kernel
theorem dX5_change_1 : decode cX5_change 1 = .ok (.iload_n 2, 1) := by decide +kernel
theorem dX5_change_2 : decode cX5_change 2 = .ok (.invokevirtual 90, 3) := by decide +kernel
theorem dX5_change_5 : decode cX5_change 5 = .ok (.istore 4, 2) := by decide +kernel
theorem dX5_change_7 : decode cX5_change 7 = .ok (.iload 4, 2) := by decide +kernel
theorem dX5_change_9 : decode cX5_change 9 = .ok (.ifCond .eq 6, 3) := by decide +kernel
theorem dX5_change_12 : decode cX5_change 12 = .ok (.iload 4, 2) := by decide +kernel
theorem dX5_change_14 : decode cX5_change 14 = .ok (.ireturn, 1) := by decide +kernel
theorem dX5_change_15 : decode cX5_change 15 = .ok (.aload_n 0, 1) := by decide +kernel
theorem dX5_change_16 : decode cX5_change 16 = .ok (.getfield 35, 3) := by decide +kernel
theorem dX5_change_19 : decode cX5_change 19 = .ok (.iload_n 2, 1) := by decide +kernel
theorem dX5_change_20 : decode cX5_change 20 = .ok (.iaload, 1) := by decide +kernel
theorem dX5_change_21 : decode cX5_change 21 = .ok (.ifCond .ne 6, 3) := by decide +kernel
theorem dX5_change_24 : decode cX5_change 24 = .ok (.bipush 7, 2) := by decide +kernel
theorem dX5_change_26 : decode cX5_change 26 = .ok (.ireturn, 1) := by decide +kernel
theorem dX5_change_27 : decode cX5_change 27 = .ok (.iload_n 1, 1) := by decide +kernel
theorem dX5_change_28 : decode cX5_change 28 = .ok (.iconst 5, 1) := by decide +kernel
theorem dX5_change_29 : decode cX5_change 29 = .ok (.if_icmp .ne 47, 3) := by decide +kernel
theorem dX5_change_32 : decode cX5_change 32 = .ok (.iload_n 3, 1) := by decide +kernel
theorem dX5_change_33 : decode cX5_change 33 = .ok (.ifCond .ne 5, 3) := by decide +kernel
theorem dX5_change_36 : decode cX5_change 36 = .ok (.iconst 3, 1) := by decide +kernel
theorem dX5_change_37 : decode cX5_change 37 = .ok (.ireturn, 1) := by decide +kernel
theorem dX5_change_38 : decode cX5_change 38 = .ok (.aload_n 0, 1) := by decide +kernel
theorem dX5_change_39 : decode cX5_change 39 = .ok (.getfield 29, 3) := by decide +kernel
theorem dX5_change_42 : decode cX5_change 42 = .ok (.iload_n 2, 1) := by decide +kernel
theorem dX5_change_43 : decode cX5_change 43 = .ok (.iaload, 1) := by decide +kernel
theorem dX5_change_44 : decode cX5_change 44 = .ok (.iload_n 3, 1) := by decide +kernel
theorem dX5_change_45 : decode cX5_change 45 = .ok (.idiv, 1) := by decide +kernel
theorem dX5_change_46 : decode cX5_change 46 = .ok (.istore 5, 2) := by decide +kernel
theorem dX5_change_48 : decode cX5_change 48 = .ok (.aload_n 0, 1) := by decide +kernel
theorem dX5_change_49 : decode cX5_change 49 = .ok (.dup, 1) := by decide +kernel
theorem dX5_change_50 : decode cX5_change 50 = .ok (.getfield 98, 3) := by decide +kernel
theorem dX5_change_53 : decode cX5_change 53 = .ok (.aload_n 0, 1) := by decide +kernel
theorem dX5_change_54 : decode cX5_change 54 = .ok (.getfield 29, 3) := by decide +kernel
theorem dX5_change_57 : decode cX5_change 57 = .ok (.iload_n 2, 1) := by decide +kernel
theorem dX5_change_58 : decode cX5_change 58 = .ok (.iaload, 1) := by decide +kernel
theorem dX5_change_59 : decode cX5_change 59 = .ok (.iload 5, 2) := by decide +kernel
theorem dX5_change_61 : decode cX5_change 61 = .ok (.isub, 1) := by decide +kernel
theorem dX5_change_62 : decode cX5_change 62 = .ok (.iadd, 1) := by decide +kernel
theorem dX5_change_63 : decode cX5_change 63 = .ok (.putfield 98, 3) := by decide +kernel
theorem dX5_change_66 : decode cX5_change 66 = .ok (.aload_n 0, 1) := by decide +kernel
theorem dX5_change_67 : decode cX5_change 67 = .ok (.getfield 29, 3) := by decide +kernel
theorem dX5_change_70 : decode cX5_change 70 = .ok (.iload_n 2, 1) := by decide +kernel
theorem dX5_change_71 : decode cX5_change 71 = .ok (.iload 5, 2) := by decide +kernel
theorem dX5_change_73 : decode cX5_change 73 = .ok (.iastore, 1) := by decide +kernel
theorem dX5_change_74 : decode cX5_change 74 = .ok (.iconst 0, 1) := by decide +kernel
theorem dX5_change_75 : decode cX5_change 75 = .ok (.ireturn, 1) := by decide +kernel
theorem dX5_change_76 : decode cX5_change 76 = .ok (.iload_n 1, 1) := by decide +kernel
theorem dX5_change_77 : decode cX5_change 77 = .ok (.iconst 3, 1) := by decide +kernel
theorem dX5_change_78 : decode cX5_change 78 = .ok (.if_icmp .ne 14, 3) := by decide +kernel
theorem dX5_change_81 : decode cX5_change 81 = .ok (.aload_n 0, 1) := by decide +kernel
theorem dX5_change_82 : decode cX5_change 82 = .ok (.getfield 29, 3) := by decide +kernel
theorem dX5_change_85 : decode cX5_change 85 = .ok (.iload_n 2, 1) := by decide +kernel
theorem dX5_change_86 : decode cX5_change 86 = .ok (.iaload, 1) := by decide +kernel
theorem dX5_change_87 : decode cX5_change 87 = .ok (.iload_n 3, 1) := by decide +kernel
theorem dX5_change_88 : decode cX5_change 88 = .ok (.iadd, 1) := by decide +kernel
theorem dX5_change_89 : decode cX5_change 89 = .ok (.goto 11, 3) := by decide +kernel
theorem dX5_change_92 : decode cX5_change 92 = .ok (.aload_n 0, 1) := by decide +kernel
theorem dX5_change_93 : decode cX5_change 93 = .ok (.getfield 29, 3) := by decide +kernel
theorem dX5_change_96 : decode cX5_change 96 = .ok (.iload_n 2, 1) := by decide +kernel
theorem dX5_change_97 : decode cX5_change 97 = .ok (.iaload, 1) := by decide +kernel
theorem dX5_change_98 : decode cX5_change 98 = .ok (.iload_n 3, 1) := by decide +kernel
theorem dX5_change_99 : decode cX5_change 99 = .ok (.isub, 1) := by decide +kernel
theorem dX5_change_100 : decode cX5_change 100 = .ok (.istore 5, 2) := by decide +kernel
theorem dX5_change_102 : decode cX5_change 102 = .ok (.iload 5, 2) := by decide +kernel
theorem dX5_change_104 : decode cX5_change 104 = .ok (.ifCond .lt 11, 3) := by decide +kernel
theorem dX5_change_107 : decode cX5_change 107 = .ok (.iload 5, 2) := by decide +kernel
theorem dX5_change_109 : decode cX5_change 109 = .ok (.sipush 1000, 3) := by decide +kernel
theorem dX5_change_112 : decode cX5_change 112 = .ok (.if_icmp .le 14, 3) := by decide +kernel
theorem dX5_change_115 : decode cX5_change 115 = .ok (.iload 5, 2) := by decide +kernel
theorem dX5_change_117 : decode cX5_change 117 = .ok (.ifCond .ge 7, 3) := by decide +kernel
theorem dX5_change_120 : decode cX5_change 120 = .ok (.iconst 4, 1) := by decide +kernel
theorem dX5_change_121 : decode cX5_change 121 = .ok (.goto 4, 3) := by decide +kernel
theorem dX5_change_124 : decode cX5_change 124 = .ok (.iconst 5, 1) := by decide +kernel
theorem dX5_change_125 : decode cX5_change 125 = .ok (.ireturn, 1) := by decide +kernel
theorem dX5_change_126 : decode cX5_change 126 = .ok (.aload_n 0, 1) := by decide +kernel
theorem dX5_change_127 : decode cX5_change 127 = .ok (.getfield 29, 3) := by decide +kernel
theorem dX5_change_130 : decode cX5_change 130 = .ok (.iload_n 2, 1) := by decide +kernel
theorem dX5_change_131 : decode cX5_change 131 = .ok (.iload 5, 2) := by decide +kernel
theorem dX5_change_133 : decode cX5_change 133 = .ok (.iastore, 1) := by decide +kernel
theorem dX5_change_134 : decode cX5_change 134 = .ok (.iconst 0, 1) := by decide +kernel
theorem dX5_change_135 : decode cX5_change 135 = .ok (.ireturn, 1) := by decide +kernel
theorem dX5_move_0 : decode cX5_move 0 = .ok (.iload_n 1, 1) := by decide +kernel
theorem dX5_move_1 : decode cX5_move 1 = .ok (.bipush 7, 2) := by decide +kernel
theorem dX5_move_3 : decode cX5_move 3 = .ok (.if_icmp .gt 9, 3) := by decide +kernel
theorem dX5_move_6 : decode cX5_move 6 = .ok (.iload_n 2, 1) := by decide +kernel
theorem dX5_move_7 : decode cX5_move 7 = .ok (.bipush 7, 2) := by decide +kernel
theorem dX5_move_9 : decode cX5_move 9 = .ok (.if_icmp .le 5, 3) := by decide +kernel
theorem dX5_move_12 : decode cX5_move 12 = .ok (.iconst 1, 1) := by decide +kernel
theorem dX5_move_13 : decode cX5_move 13 = .ok (.ireturn, 1) := by decide +kernel
theorem dX5_move_14 : decode cX5_move 14 = .ok (.aload_n 0, 1) := by decide +kernel
theorem dX5_move_15 : decode cX5_move 15 = .ok (.getfield 25, 3) := by decide +kernel
theorem dX5_move_18 : decode cX5_move 18 = .ok (.iload_n 1, 1) := by decide +kernel
theorem dX5_move_19 : decode cX5_move 19 = .ok (.baload, 1) := by decide +kernel
theorem dX5_move_20 : decode cX5_move 20 = .ok (.ifCond .eq 12, 3) := by decide +kernel
theorem dX5_move_23 : decode cX5_move 23 = .ok (.aload_n 0, 1) := by decide +kernel
theorem dX5_move_24 : decode cX5_move 24 = .ok (.getfield 25, 3) := by decide +kernel
theorem dX5_move_27 : decode cX5_move 27 = .ok (.iload_n 2, 1) := by decide +kernel
theorem dX5_move_28 : decode cX5_move 28 = .ok (.baload, 1) := by decide +kernel
theorem dX5_move_29 : decode cX5_move 29 = .ok (.ifCond .ne 5, 3) := by decide +kernel
theorem dX5_move_32 : decode cX5_move 32 = .ok (.iconst 2, 1) := by decide +kernel
theorem dX5_move_33 : decode cX5_move 33 = .ok (.ireturn, 1) := by decide +kernel
theorem dX5_move_34 : decode cX5_move 34 = .ok (.iload_n 3, 1) := by decide +kernel
theorem dX5_move_35 : decode cX5_move 35 = .ok (.aload_n 0, 1) := by decide +kernel
theorem dX5_move_36 : decode cX5_move 36 = .ok (.getfield 29, 3) := by decide +kernel
theorem dX5_move_39 : decode cX5_move 39 = .ok (.iload_n 1, 1) := by decide +kernel
theorem dX5_move_40 : decode cX5_move 40 = .ok (.iaload, 1) := by decide +kernel
theorem dX5_move_41 : decode cX5_move 41 = .ok (.if_icmp .le 5, 3) := by decide +kernel
theorem dX5_move_44 : decode cX5_move 44 = .ok (.iconst 4, 1) := by decide +kernel
theorem dX5_move_45 : decode cX5_move 45 = .ok (.ireturn, 1) := by decide +kernel
theorem dX5_move_46 : decode cX5_move 46 = .ok (.iload_n 1, 1) := by decide +kernel
theorem dX5_move_47 : decode cX5_move 47 = .ok (.iload_n 2, 1) := by decide +kernel
theorem dX5_move_48 : decode cX5_move 48 = .ok (.if_icmp .eq 19, 3) := by decide +kernel
theorem dX5_move_51 : decode cX5_move 51 = .ok (.aload_n 0, 1) := by decide +kernel
theorem dX5_move_52 : decode cX5_move 52 = .ok (.getfield 29, 3) := by decide +kernel
theorem dX5_move_55 : decode cX5_move 55 = .ok (.iload_n 2, 1) := by decide +kernel
theorem dX5_move_56 : decode cX5_move 56 = .ok (.iaload, 1) := by decide +kernel
theorem dX5_move_57 : decode cX5_move 57 = .ok (.iload_n 3, 1) := by decide +kernel
theorem dX5_move_58 : decode cX5_move 58 = .ok (.iadd, 1) := by decide +kernel
theorem dX5_move_59 : decode cX5_move 59 = .ok (.sipush 1000, 3) := by decide +kernel
theorem dX5_move_62 : decode cX5_move 62 = .ok (.if_icmp .le 5, 3) := by decide +kernel
theorem dX5_move_65 : decode cX5_move 65 = .ok (.iconst 5, 1) := by decide +kernel
theorem dX5_move_66 : decode cX5_move 66 = .ok (.ireturn, 1) := by decide +kernel
theorem dX5_move_67 : decode cX5_move 67 = .ok (.aload_n 0, 1) := by decide +kernel
theorem dX5_move_68 : decode cX5_move 68 = .ok (.getfield 29, 3) := by decide +kernel
theorem dX5_move_71 : decode cX5_move 71 = .ok (.iload_n 1, 1) := by decide +kernel
theorem dX5_move_72 : decode cX5_move 72 = .ok (.dup2, 1) := by decide +kernel
theorem dX5_move_73 : decode cX5_move 73 = .ok (.iaload, 1) := by decide +kernel
theorem dX5_move_74 : decode cX5_move 74 = .ok (.iload_n 3, 1) := by decide +kernel
theorem dX5_move_75 : decode cX5_move 75 = .ok (.isub, 1) := by decide +kernel
theorem dX5_move_76 : decode cX5_move 76 = .ok (.iastore, 1) := by decide +kernel
theorem dX5_move_77 : decode cX5_move 77 = .ok (.aload_n 0, 1) := by decide +kernel
theorem dX5_move_78 : decode cX5_move 78 = .ok (.getfield 29, 3) := by decide +kernel
theorem dX5_move_81 : decode cX5_move 81 = .ok (.iload_n 2, 1) := by decide +kernel
theorem dX5_move_82 : decode cX5_move 82 = .ok (.dup2, 1) := by decide +kernel
theorem dX5_move_83 : decode cX5_move 83 = .ok (.iaload, 1) := by decide +kernel
theorem dX5_move_84 : decode cX5_move 84 = .ok (.iload_n 3, 1) := by decide +kernel
theorem dX5_move_85 : decode cX5_move 85 = .ok (.iadd, 1) := by decide +kernel
theorem dX5_move_86 : decode cX5_move 86 = .ok (.iastore, 1) := by decide +kernel
theorem dX5_move_87 : decode cX5_move 87 = .ok (.iconst 0, 1) := by decide +kernel
theorem dX5_move_88 : decode cX5_move 88 = .ok (.ireturn, 1) := by decide +kernel
set_option maxRecDepth 20000 in
theorem ggX5_call_X5_isPlan : GoodIn wsX5_call wsX5_isPlan := goodIn_r _ [8, 9, 10, 7, 11] (by decide +kernel) (by decide +kernel)
set_option maxRecDepth 20000 in
theorem gX5_call_X5_isPlan : GoodIn wsX5_call (va_wsS RX5 71 yX5_isPlan wsX5_isPlan) := goodIn_app (goodIn_of _ (by decide +kernel)) ggX5_call_X5_isPlan
set_option maxRecDepth 20000 in
theorem ggX5_call_X5_isClosed : GoodIn wsX5_call wsX5_isClosed := goodIn_r _ [15, 16, 17, 18, 19, 20, 21, 22, 23, 24, 25, 26, 27, 28, 29, 30, 31, 32, 33, 34, 35, 36, 37, 38] (by decide +kernel) (by decide +kernel)
set_option maxRecDepth 20000 in
theorem gX5_call_X5_isClosed : GoodIn wsX5_call (wsV RX5 78 RX5 yX5_isClosed wsX5_isClosed) := goodIn_app (goodIn_of _ (by decide +kernel)) ggX5_call_X5_isClosed
theorem dX5_call_0 : decode cX5_call 0 = .ok (.iload_n 1, 1) := by decide +kernel
theorem dX5_call_1 : decode cX5_call 1 = .ok (.invokestatic 71, 3) := by decide +kernel
theorem dX5_call_4 : decode cX5_call 4 = .ok (.ifCond .eq 19, 3) := by decide +kernel
theorem dX5_call_7 : decode cX5_call 7 = .ok (.aload_n 0, 1) := by decide +kernel
theorem dX5_call_8 : decode cX5_call 8 = .ok (.iload_n 1, 1) := by decide +kernel
theorem dX5_call_9 : decode cX5_call 9 = .ok (.invokevirtual 78, 3) := by decide +kernel
theorem dX5_call_12 : decode cX5_call 12 = .ok (.ifCond .eq 11, 3) := by decide +kernel
theorem dX5_call_15 : decode cX5_call 15 = .ok (.aload_n 0, 1) := by decide +kernel
theorem dX5_call_16 : decode cX5_call 16 = .ok (.getfield 84, 3) := by decide +kernel
theorem dX5_call_19 : decode cX5_call 19 = .ok (.iconst 4, 1) := by decide +kernel
theorem dX5_call_20 : decode cX5_call 20 = .ok (.if_icmp .ne 6, 3) := by decide +kernel
theorem dX5_call_23 : decode cX5_call 23 = .ok (.bipush 6, 2) := by decide +kernel
theorem dX5_call_25 : decode cX5_call 25 = .ok (.ireturn, 1) := by decide +kernel
theorem dX5_call_26 : decode cX5_call 26 = .ok (.aload_n 0, 1) := by decide +kernel
theorem dX5_call_27 : decode cX5_call 27 = .ok (.dup, 1) := by decide +kernel
theorem dX5_call_28 : decode cX5_call 28 = .ok (.getfield 84, 3) := by decide +kernel
theorem dX5_call_31 : decode cX5_call 31 = .ok (.iconst 1, 1) := by decide +kernel
theorem dX5_call_32 : decode cX5_call 32 = .ok (.iadd, 1) := by decide +kernel
theorem dX5_call_33 : decode cX5_call 33 = .ok (.putfield 84, 3) := by decide +kernel
theorem dX5_call_36 : decode cX5_call 36 = .ok (.aload_n 0, 1) := by decide +kernel
theorem dX5_call_37 : decode cX5_call 37 = .ok (.getfield 44, 3) := by decide +kernel
theorem dX5_call_40 : decode cX5_call 40 = .ok (.aload_n 0, 1) := by decide +kernel
theorem dX5_call_41 : decode cX5_call 41 = .ok (.getfield 84, 3) := by decide +kernel
theorem dX5_call_44 : decode cX5_call 44 = .ok (.iload_n 1, 1) := by decide +kernel
theorem dX5_call_45 : decode cX5_call 45 = .ok (.iastore, 1) := by decide +kernel
theorem dX5_call_46 : decode cX5_call 46 = .ok (.aload_n 0, 1) := by decide +kernel
theorem dX5_call_47 : decode cX5_call 47 = .ok (.getfield 47, 3) := by decide +kernel
theorem dX5_call_50 : decode cX5_call 50 = .ok (.aload_n 0, 1) := by decide +kernel
theorem dX5_call_51 : decode cX5_call 51 = .ok (.getfield 84, 3) := by decide +kernel
theorem dX5_call_54 : decode cX5_call 54 = .ok (.iconst 0, 1) := by decide +kernel
theorem dX5_call_55 : decode cX5_call 55 = .ok (.iastore, 1) := by decide +kernel
theorem dX5_call_56 : decode cX5_call 56 = .ok (.aload_n 0, 1) := by decide +kernel
theorem dX5_call_57 : decode cX5_call 57 = .ok (.getfield 38, 3) := by decide +kernel
theorem dX5_call_60 : decode cX5_call 60 = .ok (.bipush 7, 2) := by decide +kernel
theorem dX5_call_62 : decode cX5_call 62 = .ok (.dup2, 1) := by decide +kernel
theorem dX5_call_63 : decode cX5_call 63 = .ok (.iaload, 1) := by decide +kernel
theorem dX5_call_64 : decode cX5_call 64 = .ok (.iconst 1, 1) := by decide +kernel
theorem dX5_call_65 : decode cX5_call 65 = .ok (.iadd, 1) := by decide +kernel
theorem dX5_call_66 : decode cX5_call 66 = .ok (.iastore, 1) := by decide +kernel
theorem dX5_call_67 : decode cX5_call 67 = .ok (.iconst 0, 1) := by decide +kernel
theorem dX5_call_68 : decode cX5_call 68 = .ok (.ireturn, 1) := by decide +kernel
set_option maxRecDepth 20000 in
theorem ggX5_does_X5_hold : GoodIn wsX5_does wsX5_hold := goodIn_r _ [9, 10, 11, 12, 13, 14, 15, 8, 16, 17, 18, 19, 20, 21, 22, 23, 24, 25, 26, 59, 60, 61, 62, 63, 64, 65, 66, 67, 68, 69, 70, 71, 72, 73, 74, 75, 76, 77, 78, 79] (by decide +kernel) (by decide +kernel)
set_option maxRecDepth 20000 in
theorem gX5_does_X5_hold : GoodIn wsX5_does (wsV RX5 101 RX5 yX5_hold wsX5_hold) := goodIn_app (goodIn_of _ (by decide +kernel)) ggX5_does_X5_hold
set_option maxRecDepth 20000 in
theorem ggX5_does_X5_begins : GoodIn wsX5_does wsX5_begins := goodIn_r _ [21, 22, 23, 24, 25, 26, 59, 60, 61, 62, 63, 64, 65, 66, 67, 68, 69, 70, 71, 72, 73, 74, 75, 76, 77, 78, 79] (by decide +kernel) (by decide +kernel)
set_option maxRecDepth 20000 in
theorem gX5_does_X5_begins : GoodIn wsX5_does (wsV RX5 94 RX5 yX5_begins wsX5_begins) := goodIn_app (goodIn_of _ (by decide +kernel)) ggX5_does_X5_begins
set_option maxRecDepth 20000 in
theorem ggX5_does_X5_closes : GoodIn wsX5_does wsX5_closes := goodIn_r _ [30, 23, 22, 10, 11, 31, 59, 60, 61, 62, 63, 64, 65, 66, 67, 68, 69, 70, 71, 72, 73, 74, 75, 76, 77, 78, 79] (by decide +kernel) (by decide +kernel)
set_option maxRecDepth 20000 in
theorem gX5_does_X5_closes : GoodIn wsX5_does (wsV RX5 105 RX5 yX5_closes wsX5_closes) := goodIn_app (goodIn_of _ (by decide +kernel)) ggX5_does_X5_closes
set_option maxRecDepth 20000 in
theorem ggX5_does_X5_change : GoodIn wsX5_does wsX5_change := goodIn_r _ [35, 10, 36, 37, 13, 14, 15, 8, 16, 17, 59, 60, 61, 62, 63, 64, 65, 66, 67, 68, 69, 70, 71, 72, 73, 74, 75, 76, 77, 78, 79] (by decide +kernel) (by decide +kernel)
set_option maxRecDepth 20000 in
theorem gX5_does_X5_change : GoodIn wsX5_does (wsV RX5 109 RX5 yX5_change wsX5_change) := goodIn_app (goodIn_of _ (by decide +kernel)) ggX5_does_X5_change
set_option maxRecDepth 20000 in
theorem ggX5_does_X5_move : GoodIn wsX5_does wsX5_move := goodIn_r _ [41, 17, 36, 59, 60, 61, 62, 63, 64, 65, 66, 67, 68, 69, 70, 71, 72, 73, 74, 75, 76, 77, 78, 79] (by decide +kernel) (by decide +kernel)
set_option maxRecDepth 20000 in
theorem gX5_does_X5_move : GoodIn wsX5_does (wsV RX5 113 RX5 yX5_move wsX5_move) := goodIn_app (goodIn_of _ (by decide +kernel)) ggX5_does_X5_move
set_option maxRecDepth 20000 in
theorem ggX5_does_X5_call : GoodIn wsX5_does wsX5_call := goodIn_r _ [45, 26, 46, 47, 12, 48, 49, 8, 50, 51, 52, 53, 54, 55, 56, 57, 58, 2, 59, 60, 61, 62, 63, 64, 65, 66, 67, 68, 69, 70, 71, 72, 73, 74, 75, 76, 77, 78, 79] (by decide +kernel) (by decide +kernel)
set_option maxRecDepth 20000 in
theorem gX5_does_X5_call : GoodIn wsX5_does (wsV RX5 116 RX5 yX5_call wsX5_call) := goodIn_app (goodIn_of _ (by decide +kernel)) ggX5_does_X5_call
theorem dX5_does_0 : decode cX5_does 0 = .ok (.bipush 40, 2) := by decide +kernel
theorem dX5_does_2 : decode cX5_does 2 = .ok (.iload_n 1, 1) := by decide +kernel
theorem dX5_does_3 : decode cX5_does 3 = .ok (.imul, 1) := by decide +kernel
theorem dX5_does_4 : decode cX5_does 4 = .ok (.iload_n 2, 1) := by decide +kernel
theorem dX5_does_5 : decode cX5_does 5 = .ok (.iadd, 1) := by decide +kernel
theorem dX5_does_6 : decode cX5_does 6 = .ok (.istore_n 3, 1) := by decide +kernel
theorem dX5_does_7 : decode cX5_does 7 = .ok (.aload_n 0, 1) := by decide +kernel
theorem dX5_does_8 : decode cX5_does 8 = .ok (.getfield 16, 3) := by decide +kernel
theorem dX5_does_11 : decode cX5_does 11 = .ok (.iload_n 3, 1) := by decide +kernel
theorem dX5_does_12 : decode cX5_does 12 = .ok (.iaload, 1) := by decide +kernel
theorem dX5_does_13 : decode cX5_does 13 = .ok (.istore 4, 2) := by decide +kernel
theorem dX5_does_15 : decode cX5_does 15 = .ok (.aload_n 0, 1) := by decide +kernel
theorem dX5_does_16 : decode cX5_does 16 = .ok (.getfield 13, 3) := by decide +kernel
theorem dX5_does_19 : decode cX5_does 19 = .ok (.iload_n 3, 1) := by decide +kernel
theorem dX5_does_20 : decode cX5_does 20 = .ok (.iaload, 1) := by decide +kernel
theorem dX5_does_21 : decode cX5_does 21 = .ok (.tableswitch 126 0 8 #[51, 59, 71, 78, 78, 78, 97, 116, 119], 51) := by decide +kernel
theorem dX5_does_72 : decode cX5_does 72 = .ok (.aload_n 0, 1) := by decide +kernel
theorem dX5_does_73 : decode cX5_does 73 = .ok (.iload 4, 2) := by decide +kernel
theorem dX5_does_75 : decode cX5_does 75 = .ok (.iload_n 2, 1) := by decide +kernel
theorem dX5_does_76 : decode cX5_does 76 = .ok (.invokevirtual 101, 3) := by decide +kernel
theorem dX5_does_79 : decode cX5_does 79 = .ok (.ireturn, 1) := by decide +kernel
theorem dX5_does_80 : decode cX5_does 80 = .ok (.aload_n 0, 1) := by decide +kernel
theorem dX5_does_81 : decode cX5_does 81 = .ok (.bipush 10, 2) := by decide +kernel
theorem dX5_does_83 : decode cX5_does 83 = .ok (.iload 4, 2) := by decide +kernel
theorem dX5_does_85 : decode cX5_does 85 = .ok (.iadd, 1) := by decide +kernel
theorem dX5_does_86 : decode cX5_does 86 = .ok (.iload_n 2, 1) := by decide +kernel
theorem dX5_does_87 : decode cX5_does 87 = .ok (.invokevirtual 94, 3) := by decide +kernel
theorem dX5_does_90 : decode cX5_does 90 = .ok (.iconst 0, 1) := by decide +kernel
theorem dX5_does_91 : decode cX5_does 91 = .ok (.ireturn, 1) := by decide +kernel
theorem dX5_does_92 : decode cX5_does 92 = .ok (.aload_n 0, 1) := by decide +kernel
theorem dX5_does_93 : decode cX5_does 93 = .ok (.iconst 0, 1) := by decide +kernel
theorem dX5_does_94 : decode cX5_does 94 = .ok (.invokevirtual 105, 3) := by decide +kernel
theorem dX5_does_97 : decode cX5_does 97 = .ok (.iconst 0, 1) := by decide +kernel
theorem dX5_does_98 : decode cX5_does 98 = .ok (.ireturn, 1) := by decide +kernel
theorem dX5_does_99 : decode cX5_does 99 = .ok (.aload_n 0, 1) := by decide +kernel
theorem dX5_does_100 : decode cX5_does 100 = .ok (.aload_n 0, 1) := by decide +kernel
theorem dX5_does_101 : decode cX5_does 101 = .ok (.getfield 13, 3) := by decide +kernel
theorem dX5_does_104 : decode cX5_does 104 = .ok (.iload_n 3, 1) := by decide +kernel
theorem dX5_does_105 : decode cX5_does 105 = .ok (.iaload, 1) := by decide +kernel
theorem dX5_does_106 : decode cX5_does 106 = .ok (.iload 4, 2) := by decide +kernel
theorem dX5_does_108 : decode cX5_does 108 = .ok (.aload_n 0, 1) := by decide +kernel
theorem dX5_does_109 : decode cX5_does 109 = .ok (.getfield 19, 3) := by decide +kernel
theorem dX5_does_112 : decode cX5_does 112 = .ok (.iload_n 3, 1) := by decide +kernel
theorem dX5_does_113 : decode cX5_does 113 = .ok (.iaload, 1) := by decide +kernel
theorem dX5_does_114 : decode cX5_does 114 = .ok (.invokevirtual 109, 3) := by decide +kernel
theorem dX5_does_117 : decode cX5_does 117 = .ok (.ireturn, 1) := by decide +kernel
theorem dX5_does_118 : decode cX5_does 118 = .ok (.aload_n 0, 1) := by decide +kernel
theorem dX5_does_119 : decode cX5_does 119 = .ok (.iload 4, 2) := by decide +kernel
theorem dX5_does_121 : decode cX5_does 121 = .ok (.aload_n 0, 1) := by decide +kernel
theorem dX5_does_122 : decode cX5_does 122 = .ok (.getfield 19, 3) := by decide +kernel
theorem dX5_does_125 : decode cX5_does 125 = .ok (.iload_n 3, 1) := by decide +kernel
theorem dX5_does_126 : decode cX5_does 126 = .ok (.iaload, 1) := by decide +kernel
theorem dX5_does_127 : decode cX5_does 127 = .ok (.aload_n 0, 1) := by decide +kernel
theorem dX5_does_128 : decode cX5_does 128 = .ok (.getfield 22, 3) := by decide +kernel
theorem dX5_does_131 : decode cX5_does 131 = .ok (.iload_n 3, 1) := by decide +kernel
theorem dX5_does_132 : decode cX5_does 132 = .ok (.iaload, 1) := by decide +kernel
theorem dX5_does_133 : decode cX5_does 133 = .ok (.invokevirtual 113, 3) := by decide +kernel
theorem dX5_does_136 : decode cX5_does 136 = .ok (.ireturn, 1) := by decide +kernel
theorem dX5_does_137 : decode cX5_does 137 = .ok (.iload 4, 2) := by decide +kernel
theorem dX5_does_139 : decode cX5_does 139 = .ok (.ireturn, 1) := by decide +kernel
theorem dX5_does_140 : decode cX5_does 140 = .ok (.aload_n 0, 1) := by decide +kernel
theorem dX5_does_141 : decode cX5_does 141 = .ok (.iload 4, 2) := by decide +kernel
theorem dX5_does_143 : decode cX5_does 143 = .ok (.invokevirtual 116, 3) := by decide +kernel
theorem dX5_does_146 : decode cX5_does 146 = .ok (.ireturn, 1) := by decide +kernel
theorem dX5_does_147 : decode cX5_does 147 = .ok (.iconst 0, 1) := by decide +kernel
theorem dX5_does_148 : decode cX5_does 148 = .ok (.ireturn, 1) := by decide +kernel
set_option maxRecDepth 20000 in
theorem ggX5_isCaught_X5_closes : GoodIn wsX5_isCaught wsX5_closes := goodIn_r _ [14, 1, 2, 15, 16, 17, 23, 24, 25, 26, 27, 28, 29, 30, 31, 32, 33, 34, 35, 36, 37, 38, 39, 40, 41, 42, 43] (by decide +kernel) (by decide +kernel)
set_option maxRecDepth 20000 in
theorem gX5_isCaught_X5_closes : GoodIn wsX5_isCaught (wsV RX5 105 RX5 yX5_closes wsX5_closes) := goodIn_app (goodIn_of _ (by decide +kernel)) ggX5_isCaught_X5_closes
set_option maxRecDepth 20000 in
theorem ggX5_isCaught_X5_behind : GoodIn wsX5_isCaught wsX5_behind := goodIn_r _ [21, 22, 23, 24, 25, 26, 27, 28, 29, 30, 31, 32, 33, 34, 35, 36, 37, 38, 39, 40, 41, 42, 43] (by decide +kernel) (by decide +kernel)
set_option maxRecDepth 20000 in
theorem gX5_isCaught_X5_behind : GoodIn wsX5_isCaught (wsV RX5 119 RX5 yX5_behind wsX5_behind) := goodIn_app (goodIn_of _ (by decide +kernel)) ggX5_isCaught_X5_behind
theorem dX5_isCaught_0 : decode cX5_isCaught 0 = .ok (.aload_n 0, 1) := by decide +kernel
theorem dX5_isCaught_1 : decode cX5_isCaught 1 = .ok (.getfield 81, 3) := by decide +kernel
theorem dX5_isCaught_4 : decode cX5_isCaught 4 = .ok (.ifCond .le 104, 3) := by decide +kernel
theorem dX5_isCaught_7 : decode cX5_isCaught 7 = .ok (.aload_n 0, 1) := by decide +kernel
theorem dX5_isCaught_8 : decode cX5_isCaught 8 = .ok (.getfield 50, 3) := by decide +kernel
theorem dX5_isCaught_11 : decode cX5_isCaught 11 = .ok (.aload_n 0, 1) := by decide +kernel
theorem dX5_isCaught_12 : decode cX5_isCaught 12 = .ok (.getfield 81, 3) := by decide +kernel
theorem dX5_isCaught_15 : decode cX5_isCaught 15 = .ok (.iconst 1, 1) := by decide +kernel
theorem dX5_isCaught_16 : decode cX5_isCaught 16 = .ok (.isub, 1) := by decide +kernel
theorem dX5_isCaught_17 : decode cX5_isCaught 17 = .ok (.iaload, 1) := by decide +kernel
theorem dX5_isCaught_18 : decode cX5_isCaught 18 = .ok (.istore_n 2, 1) := by decide +kernel
theorem dX5_isCaught_19 : decode cX5_isCaught 19 = .ok (.aload_n 0, 1) := by decide +kernel
theorem dX5_isCaught_20 : decode cX5_isCaught 20 = .ok (.iconst 1, 1) := by decide +kernel
theorem dX5_isCaught_21 : decode cX5_isCaught 21 = .ok (.invokevirtual 105, 3) := by decide +kernel
theorem dX5_isCaught_24 : decode cX5_isCaught 24 = .ok (.iload_n 2, 1) := by decide +kernel
theorem dX5_isCaught_25 : decode cX5_isCaught 25 = .ok (.bipush 10, 2) := by decide +kernel
theorem dX5_isCaught_27 : decode cX5_isCaught 27 = .ok (.if_icmp .eq 11, 3) := by decide +kernel
theorem dX5_isCaught_30 : decode cX5_isCaught 30 = .ok (.iload_n 2, 1) := by decide +kernel
theorem dX5_isCaught_31 : decode cX5_isCaught 31 = .ok (.bipush 10, 2) := by decide +kernel
theorem dX5_isCaught_33 : decode cX5_isCaught 33 = .ok (.iload_n 1, 1) := by decide +kernel
theorem dX5_isCaught_34 : decode cX5_isCaught 34 = .ok (.iadd, 1) := by decide +kernel
theorem dX5_isCaught_35 : decode cX5_isCaught 35 = .ok (.if_icmp .ne 70, 3) := by decide +kernel
theorem dX5_isCaught_38 : decode cX5_isCaught 38 = .ok (.aload_n 0, 1) := by decide +kernel
theorem dX5_isCaught_39 : decode cX5_isCaught 39 = .ok (.aload_n 0, 1) := by decide +kernel
theorem dX5_isCaught_40 : decode cX5_isCaught 40 = .ok (.getfield 56, 3) := by decide +kernel
theorem dX5_isCaught_43 : decode cX5_isCaught 43 = .ok (.aload_n 0, 1) := by decide +kernel
theorem dX5_isCaught_44 : decode cX5_isCaught 44 = .ok (.getfield 81, 3) := by decide +kernel
theorem dX5_isCaught_47 : decode cX5_isCaught 47 = .ok (.iaload, 1) := by decide +kernel
theorem dX5_isCaught_48 : decode cX5_isCaught 48 = .ok (.putfield 84, 3) := by decide +kernel
theorem dX5_isCaught_51 : decode cX5_isCaught 51 = .ok (.aload_n 0, 1) := by decide +kernel
theorem dX5_isCaught_52 : decode cX5_isCaught 52 = .ok (.getfield 47, 3) := by decide +kernel
theorem dX5_isCaught_55 : decode cX5_isCaught 55 = .ok (.aload_n 0, 1) := by decide +kernel
theorem dX5_isCaught_56 : decode cX5_isCaught 56 = .ok (.getfield 84, 3) := by decide +kernel
theorem dX5_isCaught_59 : decode cX5_isCaught 59 = .ok (.aload_n 0, 1) := by decide +kernel
theorem dX5_isCaught_60 : decode cX5_isCaught 60 = .ok (.aload_n 0, 1) := by decide +kernel
theorem dX5_isCaught_61 : decode cX5_isCaught 61 = .ok (.getfield 44, 3) := by decide +kernel
theorem dX5_isCaught_64 : decode cX5_isCaught 64 = .ok (.aload_n 0, 1) := by decide +kernel
theorem dX5_isCaught_65 : decode cX5_isCaught 65 = .ok (.getfield 84, 3) := by decide +kernel
theorem dX5_isCaught_68 : decode cX5_isCaught 68 = .ok (.iaload, 1) := by decide +kernel
theorem dX5_isCaught_69 : decode cX5_isCaught 69 = .ok (.aload_n 0, 1) := by decide +kernel
theorem dX5_isCaught_70 : decode cX5_isCaught 70 = .ok (.getfield 53, 3) := by decide +kernel
theorem dX5_isCaught_73 : decode cX5_isCaught 73 = .ok (.aload_n 0, 1) := by decide +kernel
theorem dX5_isCaught_74 : decode cX5_isCaught 74 = .ok (.getfield 81, 3) := by decide +kernel
theorem dX5_isCaught_77 : decode cX5_isCaught 77 = .ok (.iaload, 1) := by decide +kernel
theorem dX5_isCaught_78 : decode cX5_isCaught 78 = .ok (.invokevirtual 119, 3) := by decide +kernel
theorem dX5_isCaught_81 : decode cX5_isCaught 81 = .ok (.iastore, 1) := by decide +kernel
theorem dX5_isCaught_82 : decode cX5_isCaught 82 = .ok (.aload_n 0, 1) := by decide +kernel
theorem dX5_isCaught_83 : decode cX5_isCaught 83 = .ok (.getfield 41, 3) := by decide +kernel
theorem dX5_isCaught_86 : decode cX5_isCaught 86 = .ok (.iload_n 1, 1) := by decide +kernel
theorem dX5_isCaught_87 : decode cX5_isCaught 87 = .ok (.dup2, 1) := by decide +kernel
theorem dX5_isCaught_88 : decode cX5_isCaught 88 = .ok (.iaload, 1) := by decide +kernel
theorem dX5_isCaught_89 : decode cX5_isCaught 89 = .ok (.iconst 1, 1) := by decide +kernel
theorem dX5_isCaught_90 : decode cX5_isCaught 90 = .ok (.iadd, 1) := by decide +kernel
theorem dX5_isCaught_91 : decode cX5_isCaught 91 = .ok (.iastore, 1) := by decide +kernel
theorem dX5_isCaught_92 : decode cX5_isCaught 92 = .ok (.aload_n 0, 1) := by decide +kernel
theorem dX5_isCaught_93 : decode cX5_isCaught 93 = .ok (.getfield 38, 3) := by decide +kernel
theorem dX5_isCaught_96 : decode cX5_isCaught 96 = .ok (.bipush 6, 2) := by decide +kernel
theorem dX5_isCaught_98 : decode cX5_isCaught 98 = .ok (.dup2, 1) := by decide +kernel
theorem dX5_isCaught_99 : decode cX5_isCaught 99 = .ok (.iaload, 1) := by decide +kernel
theorem dX5_isCaught_100 : decode cX5_isCaught 100 = .ok (.iconst 1, 1) := by decide +kernel
theorem dX5_isCaught_101 : decode cX5_isCaught 101 = .ok (.iadd, 1) := by decide +kernel
theorem dX5_isCaught_102 : decode cX5_isCaught 102 = .ok (.iastore, 1) := by decide +kernel
theorem dX5_isCaught_103 : decode cX5_isCaught 103 = .ok (.iconst 1, 1) := by decide +kernel
theorem dX5_isCaught_104 : decode cX5_isCaught 104 = .ok (.ireturn, 1) := by decide +kernel
theorem dX5_isCaught_105 : decode cX5_isCaught 105 = .ok (.goto (-105), 3) := by decide +kernel
theorem dX5_isCaught_108 : decode cX5_isCaught 108 = .ok (.iconst 0, 1) := by decide +kernel
theorem dX5_isCaught_109 : decode cX5_isCaught 109 = .ok (.ireturn, 1) := by decide +kernel
set_option maxRecDepth 20000 in
theorem ggX5_ends_X5_closes : GoodIn wsX5_ends wsX5_closes := goodIn_r _ [7, 1, 8, 9, 10, 11, 12, 13, 14, 15, 16, 17, 18, 19, 20, 21, 22, 23, 24, 25, 26, 27, 28, 29, 30, 31, 32] (by decide +kernel) (by decide +kernel)
set_option maxRecDepth 20000 in
theorem gX5_ends_X5_closes : GoodIn wsX5_ends (wsV RX5 105 RX5 yX5_closes wsX5_closes) := goodIn_app (goodIn_of _ (by decide +kernel)) ggX5_ends_X5_closes
theorem dX5_ends_0 : decode cX5_ends 0 = .ok (.aload_n 0, 1) := by decide +kernel
theorem dX5_ends_1 : decode cX5_ends 1 = .ok (.getfield 81, 3) := by decide +kernel
theorem dX5_ends_4 : decode cX5_ends 4 = .ok (.ifCond .le 11, 3) := by decide +kernel
theorem dX5_ends_7 : decode cX5_ends 7 = .ok (.aload_n 0, 1) := by decide +kernel
theorem dX5_ends_8 : decode cX5_ends 8 = .ok (.iconst 1, 1) := by decide +kernel
theorem dX5_ends_9 : decode cX5_ends 9 = .ok (.invokevirtual 105, 3) := by decide +kernel
theorem dX5_ends_12 : decode cX5_ends 12 = .ok (.goto (-12), 3) := by decide +kernel
theorem dX5_ends_15 : decode cX5_ends 15 = .ok (.aload_n 0, 1) := by decide +kernel
theorem dX5_ends_16 : decode cX5_ends 16 = .ok (.getfield 38, 3) := by decide +kernel
theorem dX5_ends_19 : decode cX5_ends 19 = .ok (.iconst 0, 1) := by decide +kernel
theorem dX5_ends_20 : decode cX5_ends 20 = .ok (.iload_n 3, 1) := by decide +kernel
theorem dX5_ends_21 : decode cX5_ends 21 = .ok (.iastore, 1) := by decide +kernel
theorem dX5_ends_22 : decode cX5_ends 22 = .ok (.aload_n 0, 1) := by decide +kernel
theorem dX5_ends_23 : decode cX5_ends 23 = .ok (.getfield 38, 3) := by decide +kernel
theorem dX5_ends_26 : decode cX5_ends 26 = .ok (.iconst 1, 1) := by decide +kernel
theorem dX5_ends_27 : decode cX5_ends 27 = .ok (.iload_n 1, 1) := by decide +kernel
theorem dX5_ends_28 : decode cX5_ends 28 = .ok (.iastore, 1) := by decide +kernel
theorem dX5_ends_29 : decode cX5_ends 29 = .ok (.aload_n 0, 1) := by decide +kernel
theorem dX5_ends_30 : decode cX5_ends 30 = .ok (.getfield 38, 3) := by decide +kernel
theorem dX5_ends_33 : decode cX5_ends 33 = .ok (.iconst 2, 1) := by decide +kernel
theorem dX5_ends_34 : decode cX5_ends 34 = .ok (.iload_n 2, 1) := by decide +kernel
theorem dX5_ends_35 : decode cX5_ends 35 = .ok (.iastore, 1) := by decide +kernel
theorem dX5_ends_36 : decode cX5_ends 36 = .ok (.iload_n 3, 1) := by decide +kernel
theorem dX5_ends_37 : decode cX5_ends 37 = .ok (.ifCond .le 7, 3) := by decide +kernel
theorem dX5_ends_40 : decode cX5_ends 40 = .ok (.iconst 1, 1) := by decide +kernel
theorem dX5_ends_41 : decode cX5_ends 41 = .ok (.goto 4, 3) := by decide +kernel
theorem dX5_ends_44 : decode cX5_ends 44 = .ok (.iconst 2, 1) := by decide +kernel
theorem dX5_ends_45 : decode cX5_ends 45 = .ok (.ireturn, 1) := by decide +kernel
set_option maxRecDepth 20000 in
theorem ggX5_run_X5_isPlan : GoodIn wsX5_run wsX5_isPlan := goodIn_r _ [13, 14, 15, 12, 16] (by decide +kernel) (by decide +kernel)
set_option maxRecDepth 20000 in
theorem gX5_run_X5_isPlan : GoodIn wsX5_run (va_wsS RX5 71 yX5_isPlan wsX5_isPlan) := goodIn_app (goodIn_of _ (by decide +kernel)) ggX5_run_X5_isPlan
set_option maxRecDepth 20000 in
theorem ggX5_run_X5_in : GoodIn wsX5_run wsX5_in := goodIn_r _ [16] (by decide +kernel) (by decide +kernel)
set_option maxRecDepth 20000 in
theorem gX5_run_X5_in : GoodIn wsX5_run (va_wsS RX5 63 yX5_in wsX5_in) := goodIn_app (goodIn_of _ (by decide +kernel)) ggX5_run_X5_in
set_option maxRecDepth 20000 in
theorem ggX5_run_X5_isClosed : GoodIn wsX5_run wsX5_isClosed := goodIn_r _ [20, 9, 21, 77, 78, 79, 80, 81, 82, 83, 84, 85, 86, 87, 88, 89, 90, 91, 92, 93, 94, 95, 96, 97] (by decide +kernel) (by decide +kernel)
set_option maxRecDepth 20000 in
theorem gX5_run_X5_isClosed : GoodIn wsX5_run (wsV RX5 78 RX5 yX5_isClosed wsX5_isClosed) := goodIn_app (goodIn_of _ (by decide +kernel)) ggX5_run_X5_isClosed
set_option maxRecDepth 20000 in
theorem ggX5_run_X5_ends : GoodIn wsX5_run wsX5_ends := goodIn_r _ [25, 7, 3, 26, 27, 28, 12, 29, 30, 31, 8, 32, 77, 78, 79, 80, 81, 82, 83, 84, 85, 86, 87, 88, 89, 90, 91, 92, 93, 94, 95, 96, 97] (by decide +kernel) (by decide +kernel)
set_option maxRecDepth 20000 in
theorem gX5_run_X5_ends : GoodIn wsX5_run (wsV RX5 122 RX5 yX5_ends wsX5_ends) := goodIn_app (goodIn_of _ (by decide +kernel)) ggX5_run_X5_ends
set_option maxRecDepth 20000 in
theorem ggX5_run_X5_does : GoodIn wsX5_run wsX5_does := goodIn_r _ [36, 37, 21, 38, 39, 40, 41, 42, 12, 43, 31, 8, 3, 44, 45, 46, 47, 48, 49, 50, 51, 52, 30, 7, 53, 54, 4, 26, 27, 28, 29, 32, 55, 56, 57, 58, 59, 60, 61, 62, 63, 64, 65, 66, 67, 68, 5, 6, 10, 11, 13, 14, 15, 16, 17, 18, 19, 20, 9, 77, 78, 79, 80, 81, 82, 83, 84, 85, 86, 87, 88, 89, 90, 91, 92, 93, 94, 95, 96, 97] (by decide +kernel) (by decide +kernel)
set_option maxRecDepth 20000 in
theorem gX5_run_X5_does : GoodIn wsX5_run (wsV RX5 125 RX5 yX5_does wsX5_does) := goodIn_app (goodIn_of _ (by decide +kernel)) ggX5_run_X5_does
set_option maxRecDepth 20000 in
theorem ggX5_run_X5_isCaught : GoodIn wsX5_run wsX5_isCaught := goodIn_r _ [72, 7, 30, 54, 4, 6, 5, 53, 2, 3, 26, 27, 28, 12, 29, 31, 8, 32, 73, 74, 75, 76, 21, 77, 78, 79, 80, 81, 82, 83, 84, 85, 86, 87, 88, 89, 90, 91, 92, 93, 94, 95, 96, 97] (by decide +kernel) (by decide +kernel)
set_option maxRecDepth 20000 in
theorem gX5_run_X5_isCaught : GoodIn wsX5_run (wsV RX5 128 RX5 yX5_isCaught wsX5_isCaught) := goodIn_app (goodIn_of _ (by decide +kernel)) ggX5_run_X5_isCaught
theorem dX5_run_0 : decode cX5_run 0 = .ok (.aload_n 0, 1) := by decide +kernel
theorem dX5_run_1 : decode cX5_run 1 = .ok (.iconst 0, 1) := by decide +kernel
theorem dX5_run_2 : decode cX5_run 2 = .ok (.putfield 59, 3) := by decide +kernel
theorem dX5_run_5 : decode cX5_run 5 = .ok (.iload_n 1, 1) := by decide +kernel
theorem dX5_run_6 : decode cX5_run 6 = .ok (.invokestatic 71, 3) := by decide +kernel
theorem dX5_run_9 : decode cX5_run 9 = .ok (.ifCond .eq 13, 3) := by decide +kernel
theorem dX5_run_12 : decode cX5_run 12 = .ok (.iload_n 2, 1) := by decide +kernel
theorem dX5_run_13 : decode cX5_run 13 = .ok (.iconst 0, 1) := by decide +kernel
theorem dX5_run_14 : decode cX5_run 14 = .ok (.bipush 64, 2) := by decide +kernel
theorem dX5_run_16 : decode cX5_run 16 = .ok (.invokestatic 63, 3) := by decide +kernel
theorem dX5_run_19 : decode cX5_run 19 = .ok (.ifCond .ne 5, 3) := by decide +kernel
theorem dX5_run_22 : decode cX5_run 22 = .ok (.iconst (-1), 1) := by decide +kernel
theorem dX5_run_23 : decode cX5_run 23 = .ok (.ireturn, 1) := by decide +kernel
theorem dX5_run_24 : decode cX5_run 24 = .ok (.aload_n 0, 1) := by decide +kernel
theorem dX5_run_25 : decode cX5_run 25 = .ok (.iload_n 1, 1) := by decide +kernel
theorem dX5_run_26 : decode cX5_run 26 = .ok (.invokevirtual 78, 3) := by decide +kernel
theorem dX5_run_29 : decode cX5_run 29 = .ok (.ifCond .ne 6, 3) := by decide +kernel
theorem dX5_run_32 : decode cX5_run 32 = .ok (.bipush (-3), 2) := by decide +kernel
theorem dX5_run_34 : decode cX5_run 34 = .ok (.ireturn, 1) := by decide +kernel
theorem dX5_run_35 : decode cX5_run 35 = .ok (.iconst 0, 1) := by decide +kernel
theorem dX5_run_36 : decode cX5_run 36 = .ok (.istore_n 3, 1) := by decide +kernel
theorem dX5_run_37 : decode cX5_run 37 = .ok (.iload_n 3, 1) := by decide +kernel
theorem dX5_run_38 : decode cX5_run 38 = .ok (.bipush 10, 2) := by decide +kernel
theorem dX5_run_40 : decode cX5_run 40 = .ok (.if_icmp .ge 16, 3) := by decide +kernel
theorem dX5_run_43 : decode cX5_run 43 = .ok (.aload_n 0, 1) := by decide +kernel
theorem dX5_run_44 : decode cX5_run 44 = .ok (.getfield 41, 3) := by decide +kernel
theorem dX5_run_47 : decode cX5_run 47 = .ok (.iload_n 3, 1) := by decide +kernel
theorem dX5_run_48 : decode cX5_run 48 = .ok (.iconst 0, 1) := by decide +kernel
theorem dX5_run_49 : decode cX5_run 49 = .ok (.iastore, 1) := by decide +kernel
theorem dX5_run_50 : decode cX5_run 50 = .ok (.iinc 3 1, 3) := by decide +kernel
theorem dX5_run_53 : decode cX5_run 53 = .ok (.goto (-16), 3) := by decide +kernel
theorem dX5_run_56 : decode cX5_run 56 = .ok (.iconst 0, 1) := by decide +kernel
theorem dX5_run_57 : decode cX5_run 57 = .ok (.istore_n 3, 1) := by decide +kernel
theorem dX5_run_58 : decode cX5_run 58 = .ok (.iload_n 3, 1) := by decide +kernel
theorem dX5_run_59 : decode cX5_run 59 = .ok (.bipush 8, 2) := by decide +kernel
theorem dX5_run_61 : decode cX5_run 61 = .ok (.if_icmp .ge 31, 3) := by decide +kernel
theorem dX5_run_64 : decode cX5_run 64 = .ok (.aload_n 0, 1) := by decide +kernel
theorem dX5_run_65 : decode cX5_run 65 = .ok (.getfield 38, 3) := by decide +kernel
theorem dX5_run_68 : decode cX5_run 68 = .ok (.iload_n 3, 1) := by decide +kernel
theorem dX5_run_69 : decode cX5_run 69 = .ok (.iload_n 3, 1) := by decide +kernel
theorem dX5_run_70 : decode cX5_run 70 = .ok (.iconst 1, 1) := by decide +kernel
theorem dX5_run_71 : decode cX5_run 71 = .ok (.if_icmp .eq 8, 3) := by decide +kernel
theorem dX5_run_74 : decode cX5_run 74 = .ok (.iload_n 3, 1) := by decide +kernel
theorem dX5_run_75 : decode cX5_run 75 = .ok (.iconst 2, 1) := by decide +kernel
theorem dX5_run_76 : decode cX5_run 76 = .ok (.if_icmp .ne 8, 3) := by decide +kernel
theorem dX5_run_79 : decode cX5_run 79 = .ok (.bipush (-4), 2) := by decide +kernel
theorem dX5_run_81 : decode cX5_run 81 = .ok (.goto 4, 3) := by decide +kernel
theorem dX5_run_84 : decode cX5_run 84 = .ok (.iconst 0, 1) := by decide +kernel
theorem dX5_run_85 : decode cX5_run 85 = .ok (.iastore, 1) := by decide +kernel
theorem dX5_run_86 : decode cX5_run 86 = .ok (.iinc 3 1, 3) := by decide +kernel
theorem dX5_run_89 : decode cX5_run 89 = .ok (.goto (-31), 3) := by decide +kernel
theorem dX5_run_92 : decode cX5_run 92 = .ok (.aload_n 0, 1) := by decide +kernel
theorem dX5_run_93 : decode cX5_run 93 = .ok (.iconst 0, 1) := by decide +kernel
theorem dX5_run_94 : decode cX5_run 94 = .ok (.putfield 84, 3) := by decide +kernel
theorem dX5_run_97 : decode cX5_run 97 = .ok (.aload_n 0, 1) := by decide +kernel
theorem dX5_run_98 : decode cX5_run 98 = .ok (.getfield 44, 3) := by decide +kernel
theorem dX5_run_101 : decode cX5_run 101 = .ok (.iconst 0, 1) := by decide +kernel
theorem dX5_run_102 : decode cX5_run 102 = .ok (.iload_n 1, 1) := by decide +kernel
theorem dX5_run_103 : decode cX5_run 103 = .ok (.iastore, 1) := by decide +kernel
theorem dX5_run_104 : decode cX5_run 104 = .ok (.aload_n 0, 1) := by decide +kernel
theorem dX5_run_105 : decode cX5_run 105 = .ok (.getfield 47, 3) := by decide +kernel
theorem dX5_run_108 : decode cX5_run 108 = .ok (.iconst 0, 1) := by decide +kernel
theorem dX5_run_109 : decode cX5_run 109 = .ok (.iconst 0, 1) := by decide +kernel
theorem dX5_run_110 : decode cX5_run 110 = .ok (.iastore, 1) := by decide +kernel
theorem dX5_run_111 : decode cX5_run 111 = .ok (.aload_n 0, 1) := by decide +kernel
theorem dX5_run_112 : decode cX5_run 112 = .ok (.iconst 0, 1) := by decide +kernel
theorem dX5_run_113 : decode cX5_run 113 = .ok (.putfield 81, 3) := by decide +kernel
theorem dX5_run_116 : decode cX5_run 116 = .ok (.aload_n 0, 1) := by decide +kernel
theorem dX5_run_117 : decode cX5_run 117 = .ok (.iconst 0, 1) := by decide +kernel
theorem dX5_run_118 : decode cX5_run 118 = .ok (.putfield 87, 3) := by decide +kernel
theorem dX5_run_121 : decode cX5_run 121 = .ok (.aload_n 0, 1) := by decide +kernel
theorem dX5_run_122 : decode cX5_run 122 = .ok (.getfield 84, 3) := by decide +kernel
theorem dX5_run_125 : decode cX5_run 125 = .ok (.ifCond .gt 18, 3) := by decide +kernel
theorem dX5_run_128 : decode cX5_run 128 = .ok (.aload_n 0, 1) := by decide +kernel
theorem dX5_run_129 : decode cX5_run 129 = .ok (.getfield 47, 3) := by decide +kernel
theorem dX5_run_132 : decode cX5_run 132 = .ok (.iconst 0, 1) := by decide +kernel
theorem dX5_run_133 : decode cX5_run 133 = .ok (.iaload, 1) := by decide +kernel
theorem dX5_run_134 : decode cX5_run 134 = .ok (.aload_n 0, 1) := by decide +kernel
theorem dX5_run_135 : decode cX5_run 135 = .ok (.getfield 7, 3) := by decide +kernel
theorem dX5_run_138 : decode cX5_run 138 = .ok (.iload_n 1, 1) := by decide +kernel
theorem dX5_run_139 : decode cX5_run 139 = .ok (.iaload, 1) := by decide +kernel
theorem dX5_run_140 : decode cX5_run 140 = .ok (.if_icmp .ge 126, 3) := by decide +kernel
theorem dX5_run_143 : decode cX5_run 143 = .ok (.aload_n 0, 1) := by decide +kernel
theorem dX5_run_144 : decode cX5_run 144 = .ok (.getfield 44, 3) := by decide +kernel
theorem dX5_run_147 : decode cX5_run 147 = .ok (.aload_n 0, 1) := by decide +kernel
theorem dX5_run_148 : decode cX5_run 148 = .ok (.getfield 84, 3) := by decide +kernel
theorem dX5_run_151 : decode cX5_run 151 = .ok (.iaload, 1) := by decide +kernel
theorem dX5_run_152 : decode cX5_run 152 = .ok (.istore_n 3, 1) := by decide +kernel
theorem dX5_run_153 : decode cX5_run 153 = .ok (.aload_n 0, 1) := by decide +kernel
theorem dX5_run_154 : decode cX5_run 154 = .ok (.getfield 47, 3) := by decide +kernel
theorem dX5_run_157 : decode cX5_run 157 = .ok (.aload_n 0, 1) := by decide +kernel
theorem dX5_run_158 : decode cX5_run 158 = .ok (.getfield 84, 3) := by decide +kernel
theorem dX5_run_161 : decode cX5_run 161 = .ok (.iaload, 1) := by decide +kernel
theorem dX5_run_162 : decode cX5_run 162 = .ok (.istore 4, 2) := by decide +kernel
theorem dX5_run_164 : decode cX5_run 164 = .ok (.iload 4, 2) := by decide +kernel
theorem dX5_run_166 : decode cX5_run 166 = .ok (.aload_n 0, 1) := by decide +kernel
theorem dX5_run_167 : decode cX5_run 167 = .ok (.getfield 7, 3) := by decide +kernel
theorem dX5_run_170 : decode cX5_run 170 = .ok (.iload_n 3, 1) := by decide +kernel
theorem dX5_run_171 : decode cX5_run 171 = .ok (.iaload, 1) := by decide +kernel
theorem dX5_run_172 : decode cX5_run 172 = .ok (.if_icmp .ne 16, 3) := by decide +kernel
theorem dX5_run_175 : decode cX5_run 175 = .ok (.aload_n 0, 1) := by decide +kernel
theorem dX5_run_176 : decode cX5_run 176 = .ok (.dup, 1) := by decide +kernel
theorem dX5_run_177 : decode cX5_run 177 = .ok (.getfield 84, 3) := by decide +kernel
theorem dX5_run_180 : decode cX5_run 180 = .ok (.iconst 1, 1) := by decide +kernel
theorem dX5_run_181 : decode cX5_run 181 = .ok (.isub, 1) := by decide +kernel
theorem dX5_run_182 : decode cX5_run 182 = .ok (.putfield 84, 3) := by decide +kernel
theorem dX5_run_185 : decode cX5_run 185 = .ok (.goto 78, 3) := by decide +kernel
theorem dX5_run_188 : decode cX5_run 188 = .ok (.aload_n 0, 1) := by decide +kernel
theorem dX5_run_189 : decode cX5_run 189 = .ok (.getfield 38, 3) := by decide +kernel
theorem dX5_run_192 : decode cX5_run 192 = .ok (.iconst 3, 1) := by decide +kernel
theorem dX5_run_193 : decode cX5_run 193 = .ok (.iaload, 1) := by decide +kernel
theorem dX5_run_194 : decode cX5_run 194 = .ok (.iload_n 2, 1) := by decide +kernel
theorem dX5_run_195 : decode cX5_run 195 = .ok (.if_icmp .ne 12, 3) := by decide +kernel
theorem dX5_run_198 : decode cX5_run 198 = .ok (.aload_n 0, 1) := by decide +kernel
theorem dX5_run_199 : decode cX5_run 199 = .ok (.iload_n 3, 1) := by decide +kernel
theorem dX5_run_200 : decode cX5_run 200 = .ok (.iload 4, 2) := by decide +kernel
theorem dX5_run_202 : decode cX5_run 202 = .ok (.iconst 0, 1) := by decide +kernel
theorem dX5_run_203 : decode cX5_run 203 = .ok (.invokevirtual 122, 3) := by decide +kernel
theorem dX5_run_206 : decode cX5_run 206 = .ok (.ireturn, 1) := by decide +kernel
theorem dX5_run_207 : decode cX5_run 207 = .ok (.aload_n 0, 1) := by decide +kernel
theorem dX5_run_208 : decode cX5_run 208 = .ok (.getfield 38, 3) := by decide +kernel
theorem dX5_run_211 : decode cX5_run 211 = .ok (.iconst 3, 1) := by decide +kernel
theorem dX5_run_212 : decode cX5_run 212 = .ok (.dup2, 1) := by decide +kernel
theorem dX5_run_213 : decode cX5_run 213 = .ok (.iaload, 1) := by decide +kernel
theorem dX5_run_214 : decode cX5_run 214 = .ok (.iconst 1, 1) := by decide +kernel
theorem dX5_run_215 : decode cX5_run 215 = .ok (.iadd, 1) := by decide +kernel
theorem dX5_run_216 : decode cX5_run 216 = .ok (.iastore, 1) := by decide +kernel
theorem dX5_run_217 : decode cX5_run 217 = .ok (.aload_n 0, 1) := by decide +kernel
theorem dX5_run_218 : decode cX5_run 218 = .ok (.getfield 47, 3) := by decide +kernel
theorem dX5_run_221 : decode cX5_run 221 = .ok (.aload_n 0, 1) := by decide +kernel
theorem dX5_run_222 : decode cX5_run 222 = .ok (.getfield 84, 3) := by decide +kernel
theorem dX5_run_225 : decode cX5_run 225 = .ok (.iload 4, 2) := by decide +kernel
theorem dX5_run_227 : decode cX5_run 227 = .ok (.iconst 1, 1) := by decide +kernel
theorem dX5_run_228 : decode cX5_run 228 = .ok (.iadd, 1) := by decide +kernel
theorem dX5_run_229 : decode cX5_run 229 = .ok (.iastore, 1) := by decide +kernel
theorem dX5_run_230 : decode cX5_run 230 = .ok (.aload_n 0, 1) := by decide +kernel
theorem dX5_run_231 : decode cX5_run 231 = .ok (.iload_n 3, 1) := by decide +kernel
theorem dX5_run_232 : decode cX5_run 232 = .ok (.iload 4, 2) := by decide +kernel
theorem dX5_run_234 : decode cX5_run 234 = .ok (.invokevirtual 125, 3) := by decide +kernel
theorem dX5_run_237 : decode cX5_run 237 = .ok (.istore 5, 2) := by decide +kernel
theorem dX5_run_239 : decode cX5_run 239 = .ok (.iload 5, 2) := by decide +kernel
theorem dX5_run_241 : decode cX5_run 241 = .ok (.ifCond .le 22, 3) := by decide +kernel
theorem dX5_run_244 : decode cX5_run 244 = .ok (.aload_n 0, 1) := by decide +kernel
theorem dX5_run_245 : decode cX5_run 245 = .ok (.iload 5, 2) := by decide +kernel
theorem dX5_run_247 : decode cX5_run 247 = .ok (.invokevirtual 128, 3) := by decide +kernel
theorem dX5_run_250 : decode cX5_run 250 = .ok (.ifCond .ne 13, 3) := by decide +kernel
theorem dX5_run_253 : decode cX5_run 253 = .ok (.aload_n 0, 1) := by decide +kernel
theorem dX5_run_254 : decode cX5_run 254 = .ok (.iload_n 3, 1) := by decide +kernel
theorem dX5_run_255 : decode cX5_run 255 = .ok (.iload 4, 2) := by decide +kernel
theorem dX5_run_257 : decode cX5_run 257 = .ok (.iload 5, 2) := by decide +kernel
theorem dX5_run_259 : decode cX5_run 259 = .ok (.invokevirtual 122, 3) := by decide +kernel
theorem dX5_run_262 : decode cX5_run 262 = .ok (.ireturn, 1) := by decide +kernel
theorem dX5_run_263 : decode cX5_run 263 = .ok (.goto (-142), 3) := by decide +kernel
theorem dX5_run_266 : decode cX5_run 266 = .ok (.iconst 0, 1) := by decide +kernel
theorem dX5_run_267 : decode cX5_run 267 = .ok (.ireturn, 1) := by decide +kernel
set_option maxRecDepth 20000 in
theorem ggX5_told_X5_in : GoodIn wsX5_told wsX5_in := goodIn_r _ [6] (by decide +kernel) (by decide +kernel)
set_option maxRecDepth 20000 in
theorem gX5_told_X5_in : GoodIn wsX5_told (va_wsS RX5 63 yX5_in wsX5_in) := goodIn_app (goodIn_of _ (by decide +kernel)) ggX5_told_X5_in
theorem dX5_told_0 : decode cX5_told 0 = .ok (.aload_n 0, 1) := by decide +kernel
theorem dX5_told_1 : decode cX5_told 1 = .ok (.iconst 0, 1) := by decide +kernel
theorem dX5_told_2 : decode cX5_told 2 = .ok (.putfield 59, 3) := by decide +kernel
theorem dX5_told_5 : decode cX5_told 5 = .ok (.iload_n 1, 1) := by decide +kernel
theorem dX5_told_6 : decode cX5_told 6 = .ok (.iconst 0, 1) := by decide +kernel
theorem dX5_told_7 : decode cX5_told 7 = .ok (.bipush 7, 2) := by decide +kernel
theorem dX5_told_9 : decode cX5_told 9 = .ok (.invokestatic 63, 3) := by decide +kernel
theorem dX5_told_12 : decode cX5_told 12 = .ok (.ifCond .eq 12, 3) := by decide +kernel
theorem dX5_told_15 : decode cX5_told 15 = .ok (.aload_n 0, 1) := by decide +kernel
theorem dX5_told_16 : decode cX5_told 16 = .ok (.getfield 38, 3) := by decide +kernel
theorem dX5_told_19 : decode cX5_told 19 = .ok (.iload_n 1, 1) := by decide +kernel
theorem dX5_told_20 : decode cX5_told 20 = .ok (.iaload, 1) := by decide +kernel
theorem dX5_told_21 : decode cX5_told 21 = .ok (.goto 4, 3) := by decide +kernel
theorem dX5_told_24 : decode cX5_told 24 = .ok (.iconst (-1), 1) := by decide +kernel
theorem dX5_told_25 : decode cX5_told 25 = .ok (.ireturn, 1) := by decide +kernel
set_option maxRecDepth 20000 in
theorem ggX5_caught_X5_in : GoodIn wsX5_caught wsX5_in := goodIn_r _ [6] (by decide +kernel) (by decide +kernel)
set_option maxRecDepth 20000 in
theorem gX5_caught_X5_in : GoodIn wsX5_caught (va_wsS RX5 63 yX5_in wsX5_in) := goodIn_app (goodIn_of _ (by decide +kernel)) ggX5_caught_X5_in
theorem dX5_caught_0 : decode cX5_caught 0 = .ok (.aload_n 0, 1) := by decide +kernel
theorem dX5_caught_1 : decode cX5_caught 1 = .ok (.iconst 0, 1) := by decide +kernel
theorem dX5_caught_2 : decode cX5_caught 2 = .ok (.putfield 59, 3) := by decide +kernel
theorem dX5_caught_5 : decode cX5_caught 5 = .ok (.iload_n 1, 1) := by decide +kernel
theorem dX5_caught_6 : decode cX5_caught 6 = .ok (.iconst 1, 1) := by decide +kernel
theorem dX5_caught_7 : decode cX5_caught 7 = .ok (.bipush 9, 2) := by decide +kernel
theorem dX5_caught_9 : decode cX5_caught 9 = .ok (.invokestatic 63, 3) := by decide +kernel
theorem dX5_caught_12 : decode cX5_caught 12 = .ok (.ifCond .eq 12, 3) := by decide +kernel
theorem dX5_caught_15 : decode cX5_caught 15 = .ok (.aload_n 0, 1) := by decide +kernel
theorem dX5_caught_16 : decode cX5_caught 16 = .ok (.getfield 41, 3) := by decide +kernel
theorem dX5_caught_19 : decode cX5_caught 19 = .ok (.iload_n 1, 1) := by decide +kernel
theorem dX5_caught_20 : decode cX5_caught 20 = .ok (.iaload, 1) := by decide +kernel
theorem dX5_caught_21 : decode cX5_caught 21 = .ok (.goto 4, 3) := by decide +kernel
theorem dX5_caught_24 : decode cX5_caught 24 = .ok (.iconst (-1), 1) := by decide +kernel
theorem dX5_caught_25 : decode cX5_caught 25 = .ok (.ireturn, 1) := by decide +kernel
set_option maxRecDepth 20000 in
theorem ggX5_about_X5_in : GoodIn wsX5_about wsX5_in := goodIn_r _ [8] (by decide +kernel) (by decide +kernel)
set_option maxRecDepth 20000 in
theorem gX5_about_X5_in : GoodIn wsX5_about (va_wsS RX5 63 yX5_in wsX5_in) := goodIn_app (goodIn_of _ (by decide +kernel)) ggX5_about_X5_in
theorem dX5_about_0 : decode cX5_about 0 = .ok (.aload_n 0, 1) := by decide +kernel
theorem dX5_about_1 : decode cX5_about 1 = .ok (.iconst 0, 1) := by decide +kernel
theorem dX5_about_2 : decode cX5_about 2 = .ok (.putfield 59, 3) := by decide +kernel
theorem dX5_about_5 : decode cX5_about 5 = .ok (.iload_n 1, 1) := by decide +kernel
theorem dX5_about_6 : decode cX5_about 6 = .ok (.iconst 0, 1) := by decide +kernel
theorem dX5_about_7 : decode cX5_about 7 = .ok (.bipush 7, 2) := by decide +kernel
theorem dX5_about_9 : decode cX5_about 9 = .ok (.invokestatic 63, 3) := by decide +kernel
theorem dX5_about_12 : decode cX5_about 12 = .ok (.ifCond .eq 12, 3) := by decide +kernel
theorem dX5_about_15 : decode cX5_about 15 = .ok (.iload_n 2, 1) := by decide +kernel
theorem dX5_about_16 : decode cX5_about 16 = .ok (.iconst 0, 1) := by decide +kernel
theorem dX5_about_17 : decode cX5_about 17 = .ok (.iconst 1, 1) := by decide +kernel
theorem dX5_about_18 : decode cX5_about 18 = .ok (.invokestatic 63, 3) := by decide +kernel
theorem dX5_about_21 : decode cX5_about 21 = .ok (.ifCond .ne 5, 3) := by decide +kernel
theorem dX5_about_24 : decode cX5_about 24 = .ok (.iconst (-1), 1) := by decide +kernel
theorem dX5_about_25 : decode cX5_about 25 = .ok (.ireturn, 1) := by decide +kernel
theorem dX5_about_26 : decode cX5_about 26 = .ok (.aload_n 0, 1) := by decide +kernel
theorem dX5_about_27 : decode cX5_about 27 = .ok (.getfield 25, 3) := by decide +kernel
theorem dX5_about_30 : decode cX5_about 30 = .ok (.iload_n 1, 1) := by decide +kernel
theorem dX5_about_31 : decode cX5_about 31 = .ok (.baload, 1) := by decide +kernel
theorem dX5_about_32 : decode cX5_about 32 = .ok (.ifCond .ne 8, 3) := by decide +kernel
theorem dX5_about_35 : decode cX5_about 35 = .ok (.bipush (-3), 2) := by decide +kernel
theorem dX5_about_37 : decode cX5_about 37 = .ok (.goto 22, 3) := by decide +kernel
theorem dX5_about_40 : decode cX5_about 40 = .ok (.iload_n 2, 1) := by decide +kernel
theorem dX5_about_41 : decode cX5_about 41 = .ok (.ifCond .ne 12, 3) := by decide +kernel
theorem dX5_about_44 : decode cX5_about 44 = .ok (.aload_n 0, 1) := by decide +kernel
theorem dX5_about_45 : decode cX5_about 45 = .ok (.getfield 29, 3) := by decide +kernel
theorem dX5_about_48 : decode cX5_about 48 = .ok (.iload_n 1, 1) := by decide +kernel
theorem dX5_about_49 : decode cX5_about 49 = .ok (.iaload, 1) := by decide +kernel
theorem dX5_about_50 : decode cX5_about 50 = .ok (.goto 9, 3) := by decide +kernel
theorem dX5_about_53 : decode cX5_about 53 = .ok (.aload_n 0, 1) := by decide +kernel
theorem dX5_about_54 : decode cX5_about 54 = .ok (.getfield 32, 3) := by decide +kernel
theorem dX5_about_57 : decode cX5_about 57 = .ok (.iload_n 1, 1) := by decide +kernel
theorem dX5_about_58 : decode cX5_about 58 = .ok (.iaload, 1) := by decide +kernel
theorem dX5_about_59 : decode cX5_about 59 = .ok (.ireturn, 1) := by decide +kernel
theorem dX5_first_0 : decode cX5_first 0 = .ok (.aload_n 0, 1) := by decide +kernel
theorem dX5_first_1 : decode cX5_first 1 = .ok (.iconst 0, 1) := by decide +kernel
theorem dX5_first_2 : decode cX5_first 2 = .ok (.putfield 59, 3) := by decide +kernel
theorem dX5_first_5 : decode cX5_first 5 = .ok (.iconst 0, 1) := by decide +kernel
theorem dX5_first_6 : decode cX5_first 6 = .ok (.istore_n 2, 1) := by decide +kernel
theorem dX5_first_7 : decode cX5_first 7 = .ok (.iload_n 2, 1) := by decide +kernel
theorem dX5_first_8 : decode cX5_first 8 = .ok (.bipush 8, 2) := by decide +kernel
theorem dX5_first_10 : decode cX5_first 10 = .ok (.if_icmp .ge 30, 3) := by decide +kernel
theorem dX5_first_13 : decode cX5_first 13 = .ok (.aload_n 0, 1) := by decide +kernel
theorem dX5_first_14 : decode cX5_first 14 = .ok (.getfield 25, 3) := by decide +kernel
theorem dX5_first_17 : decode cX5_first 17 = .ok (.iload_n 2, 1) := by decide +kernel
theorem dX5_first_18 : decode cX5_first 18 = .ok (.baload, 1) := by decide +kernel
theorem dX5_first_19 : decode cX5_first 19 = .ok (.ifCond .eq 15, 3) := by decide +kernel
theorem dX5_first_22 : decode cX5_first 22 = .ok (.aload_n 0, 1) := by decide +kernel
theorem dX5_first_23 : decode cX5_first 23 = .ok (.getfield 29, 3) := by decide +kernel
theorem dX5_first_26 : decode cX5_first 26 = .ok (.iload_n 2, 1) := by decide +kernel
theorem dX5_first_27 : decode cX5_first 27 = .ok (.iaload, 1) := by decide +kernel
theorem dX5_first_28 : decode cX5_first 28 = .ok (.iload_n 1, 1) := by decide +kernel
theorem dX5_first_29 : decode cX5_first 29 = .ok (.if_icmp .lt 5, 3) := by decide +kernel
theorem dX5_first_32 : decode cX5_first 32 = .ok (.iload_n 2, 1) := by decide +kernel
theorem dX5_first_33 : decode cX5_first 33 = .ok (.ireturn, 1) := by decide +kernel
theorem dX5_first_34 : decode cX5_first 34 = .ok (.iinc 2 1, 3) := by decide +kernel
theorem dX5_first_37 : decode cX5_first 37 = .ok (.goto (-30), 3) := by decide +kernel
theorem dX5_first_40 : decode cX5_first 40 = .ok (.bipush (-4), 2) := by decide +kernel
theorem dX5_first_42 : decode cX5_first 42 = .ok (.ireturn, 1) := by decide +kernel
theorem dX5_row_0 : decode cX5_row 0 = .ok (.aload_n 0, 1) := by decide +kernel
theorem dX5_row_1 : decode cX5_row 1 = .ok (.iconst 0, 1) := by decide +kernel
theorem dX5_row_2 : decode cX5_row 2 = .ok (.putfield 59, 3) := by decide +kernel
theorem dX5_row_5 : decode cX5_row 5 = .ok (.iconst 0, 1) := by decide +kernel
theorem dX5_row_6 : decode cX5_row 6 = .ok (.istore_n 2, 1) := by decide +kernel
theorem dX5_row_7 : decode cX5_row 7 = .ok (.iload_n 2, 1) := by decide +kernel
theorem dX5_row_8 : decode cX5_row 8 = .ok (.bipush 8, 2) := by decide +kernel
theorem dX5_row_10 : decode cX5_row 10 = .ok (.if_icmp .ge 28, 3) := by decide +kernel
theorem dX5_row_13 : decode cX5_row 13 = .ok (.aload_n 0, 1) := by decide +kernel
theorem dX5_row_14 : decode cX5_row 14 = .ok (.getfield 25, 3) := by decide +kernel
theorem dX5_row_17 : decode cX5_row 17 = .ok (.iload_n 2, 1) := by decide +kernel
theorem dX5_row_18 : decode cX5_row 18 = .ok (.baload, 1) := by decide +kernel
theorem dX5_row_19 : decode cX5_row 19 = .ok (.ifCond .eq 19, 3) := by decide +kernel
theorem dX5_row_22 : decode cX5_row 22 = .ok (.aload_n 0, 1) := by decide +kernel
theorem dX5_row_23 : decode cX5_row 23 = .ok (.getfield 29, 3) := by decide +kernel
theorem dX5_row_26 : decode cX5_row 26 = .ok (.iload_n 2, 1) := by decide +kernel
theorem dX5_row_27 : decode cX5_row 27 = .ok (.iaload, 1) := by decide +kernel
theorem dX5_row_28 : decode cX5_row 28 = .ok (.iload_n 1, 1) := by decide +kernel
theorem dX5_row_29 : decode cX5_row 29 = .ok (.if_icmp .gt 9, 3) := by decide +kernel
theorem dX5_row_32 : decode cX5_row 32 = .ok (.iinc 2 1, 3) := by decide +kernel
theorem dX5_row_35 : decode cX5_row 35 = .ok (.goto (-28), 3) := by decide +kernel
theorem dX5_row_38 : decode cX5_row 38 = .ok (.iload_n 2, 1) := by decide +kernel
theorem dX5_row_39 : decode cX5_row 39 = .ok (.ireturn, 1) := by decide +kernel
theorem dX5_rest_0 : decode cX5_rest 0 = .ok (.aload_n 0, 1) := by decide +kernel
theorem dX5_rest_1 : decode cX5_rest 1 = .ok (.iconst 0, 1) := by decide +kernel
theorem dX5_rest_2 : decode cX5_rest 2 = .ok (.putfield 59, 3) := by decide +kernel
theorem dX5_rest_5 : decode cX5_rest 5 = .ok (.aload_n 0, 1) := by decide +kernel
theorem dX5_rest_6 : decode cX5_rest 6 = .ok (.getfield 98, 3) := by decide +kernel
theorem dX5_rest_9 : decode cX5_rest 9 = .ok (.istore_n 1, 1) := by decide +kernel
theorem dX5_rest_10 : decode cX5_rest 10 = .ok (.aload_n 0, 1) := by decide +kernel
theorem dX5_rest_11 : decode cX5_rest 11 = .ok (.iconst 0, 1) := by decide +kernel
theorem dX5_rest_12 : decode cX5_rest 12 = .ok (.putfield 98, 3) := by decide +kernel
theorem dX5_rest_15 : decode cX5_rest 15 = .ok (.iload_n 1, 1) := by decide +kernel
theorem dX5_rest_16 : decode cX5_rest 16 = .ok (.ireturn, 1) := by decide +kernel
theorem dX5_goods_0 : decode cX5_goods 0 = .ok (.aload_n 0, 1) := by decide +kernel
theorem dX5_goods_1 : decode cX5_goods 1 = .ok (.iconst 0, 1) := by decide +kernel
theorem dX5_goods_2 : decode cX5_goods 2 = .ok (.putfield 59, 3) := by decide +kernel
theorem dX5_goods_5 : decode cX5_goods 5 = .ok (.iconst 0, 1) := by decide +kernel
theorem dX5_goods_6 : decode cX5_goods 6 = .ok (.istore_n 1, 1) := by decide +kernel
theorem dX5_goods_7 : decode cX5_goods 7 = .ok (.iconst 0, 1) := by decide +kernel
theorem dX5_goods_8 : decode cX5_goods 8 = .ok (.istore_n 2, 1) := by decide +kernel
theorem dX5_goods_9 : decode cX5_goods 9 = .ok (.iload_n 2, 1) := by decide +kernel
theorem dX5_goods_10 : decode cX5_goods 10 = .ok (.bipush 8, 2) := by decide +kernel
theorem dX5_goods_12 : decode cX5_goods 12 = .ok (.if_icmp .ge 31, 3) := by decide +kernel
theorem dX5_goods_15 : decode cX5_goods 15 = .ok (.iload_n 1, 1) := by decide +kernel
theorem dX5_goods_16 : decode cX5_goods 16 = .ok (.aload_n 0, 1) := by decide +kernel
theorem dX5_goods_17 : decode cX5_goods 17 = .ok (.getfield 25, 3) := by decide +kernel
theorem dX5_goods_20 : decode cX5_goods 20 = .ok (.iload_n 2, 1) := by decide +kernel
theorem dX5_goods_21 : decode cX5_goods 21 = .ok (.baload, 1) := by decide +kernel
theorem dX5_goods_22 : decode cX5_goods 22 = .ok (.ifCond .eq 12, 3) := by decide +kernel
theorem dX5_goods_25 : decode cX5_goods 25 = .ok (.aload_n 0, 1) := by decide +kernel
theorem dX5_goods_26 : decode cX5_goods 26 = .ok (.getfield 29, 3) := by decide +kernel
theorem dX5_goods_29 : decode cX5_goods 29 = .ok (.iload_n 2, 1) := by decide +kernel
theorem dX5_goods_30 : decode cX5_goods 30 = .ok (.iaload, 1) := by decide +kernel
theorem dX5_goods_31 : decode cX5_goods 31 = .ok (.goto 4, 3) := by decide +kernel
theorem dX5_goods_34 : decode cX5_goods 34 = .ok (.iconst 0, 1) := by decide +kernel
theorem dX5_goods_35 : decode cX5_goods 35 = .ok (.iadd, 1) := by decide +kernel
theorem dX5_goods_36 : decode cX5_goods 36 = .ok (.istore_n 1, 1) := by decide +kernel
theorem dX5_goods_37 : decode cX5_goods 37 = .ok (.iinc 2 1, 3) := by decide +kernel
theorem dX5_goods_40 : decode cX5_goods 40 = .ok (.goto (-31), 3) := by decide +kernel
theorem dX5_goods_43 : decode cX5_goods 43 = .ok (.iload_n 1, 1) := by decide +kernel
theorem dX5_goods_44 : decode cX5_goods 44 = .ok (.ireturn, 1) := by decide +kernel
