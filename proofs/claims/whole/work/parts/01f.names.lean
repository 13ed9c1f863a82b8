theorem dX5_carryOutOrder_97 : decode cX5_carryOutOrder 97 = .ok (.aload_n 0, 1) := by decide +kernel
theorem dX5_carryOutOrder_98 : decode cX5_carryOutOrder 98 = .ok (.getfield 32, 3) := by decide +kernel
theorem dX5_carryOutOrder_101 : decode cX5_carryOutOrder 101 = .ok (.getfield 228, 3) := by decide +kernel
theorem dX5_carryOutOrder_104 : decode cX5_carryOutOrder 104 = .ok (.invokevirtual 95, 3) := by decide +kernel
theorem dX5_carryOutOrder_107 : decode cX5_carryOutOrder 107 = .ok (.ireturn, 1) := by decide +kernel
theorem dX5_carryOutOrder_108 : decode cX5_carryOutOrder 108 = .ok (.aload_n 0, 1) := by decide +kernel
theorem dX5_carryOutOrder_109 : decode cX5_carryOutOrder 109 = .ok (.getfield 10, 3) := by decide +kernel
theorem dX5_carryOutOrder_112 : decode cX5_carryOutOrder 112 = .ok (.aload_n 0, 1) := by decide +kernel
theorem dX5_carryOutOrder_113 : decode cX5_carryOutOrder 113 = .ok (.getfield 32, 3) := by decide +kernel
theorem dX5_carryOutOrder_116 : decode cX5_carryOutOrder 116 = .ok (.getfield 228, 3) := by decide +kernel
theorem dX5_carryOutOrder_119 : decode cX5_carryOutOrder 119 = .ok (.aload_n 0, 1) := by decide +kernel
theorem dX5_carryOutOrder_120 : decode cX5_carryOutOrder 120 = .ok (.getfield 32, 3) := by decide +kernel
theorem dX5_carryOutOrder_123 : decode cX5_carryOutOrder 123 = .ok (.getfield 231, 3) := by decide +kernel
theorem dX5_carryOutOrder_126 : decode cX5_carryOutOrder 126 = .ok (.aload_n 0, 1) := by decide +kernel
theorem dX5_carryOutOrder_127 : decode cX5_carryOutOrder 127 = .ok (.getfield 32, 3) := by decide +kernel
theorem dX5_carryOutOrder_130 : decode cX5_carryOutOrder 130 = .ok (.getfield 234, 3) := by decide +kernel
theorem dX5_carryOutOrder_133 : decode cX5_carryOutOrder 133 = .ok (.invokevirtual 78, 3) := by decide +kernel
theorem dX5_carryOutOrder_136 : decode cX5_carryOutOrder 136 = .ok (.istore_n 1, 1) := by decide +kernel
theorem dX5_carryOutOrder_137 : decode cX5_carryOutOrder 137 = .ok (.iload_n 1, 1) := by decide +kernel
theorem dX5_carryOutOrder_138 : decode cX5_carryOutOrder 138 = .ok (.ifCond .eq 7, 3) := by decide +kernel
theorem dX5_carryOutOrder_141 : decode cX5_carryOutOrder 141 = .ok (.iload_n 1, 1) := by decide +kernel
theorem dX5_carryOutOrder_142 : decode cX5_carryOutOrder 142 = .ok (.goto 31, 3) := by decide +kernel
theorem dX5_carryOutOrder_145 : decode cX5_carryOutOrder 145 = .ok (.aload_n 0, 1) := by decide +kernel
theorem dX5_carryOutOrder_146 : decode cX5_carryOutOrder 146 = .ok (.getfield 10, 3) := by decide +kernel
theorem dX5_carryOutOrder_149 : decode cX5_carryOutOrder 149 = .ok (.aload_n 0, 1) := by decide +kernel
theorem dX5_carryOutOrder_150 : decode cX5_carryOutOrder 150 = .ok (.getfield 32, 3) := by decide +kernel
theorem dX5_carryOutOrder_153 : decode cX5_carryOutOrder 153 = .ok (.getfield 228, 3) := by decide +kernel
theorem dX5_carryOutOrder_156 : decode cX5_carryOutOrder 156 = .ok (.aload_n 0, 1) := by decide +kernel
theorem dX5_carryOutOrder_157 : decode cX5_carryOutOrder 157 = .ok (.getfield 32, 3) := by decide +kernel
theorem dX5_carryOutOrder_160 : decode cX5_carryOutOrder 160 = .ok (.getfield 231, 3) := by decide +kernel
theorem dX5_carryOutOrder_163 : decode cX5_carryOutOrder 163 = .ok (.aload_n 0, 1) := by decide +kernel
theorem dX5_carryOutOrder_164 : decode cX5_carryOutOrder 164 = .ok (.getfield 32, 3) := by decide +kernel
theorem dX5_carryOutOrder_167 : decode cX5_carryOutOrder 167 = .ok (.getfield 234, 3) := by decide +kernel
theorem dX5_carryOutOrder_170 : decode cX5_carryOutOrder 170 = .ok (.invokevirtual 82, 3) := by decide +kernel
theorem dX5_carryOutOrder_173 : decode cX5_carryOutOrder 173 = .ok (.ireturn, 1) := by decide +kernel
theorem dX6_init_0 : decode cX6_init 0 = .ok (.aload_n 0, 1) := by decide +kernel
theorem dX6_init_1 : decode cX6_init 1 = .ok (.invokespecial 1, 3) := by decide +kernel
theorem dX6_init_4 : decode cX6_init 4 = .ok (.aload_n 0, 1) := by decide +kernel
theorem dX6_init_5 : decode cX6_init 5 = .ok (.sipush 2048, 3) := by decide +kernel
theorem dX6_init_8 : decode cX6_init 8 = .ok (.newarray .int, 2) := by decide +kernel
theorem dX6_init_10 : decode cX6_init 10 = .ok (.putfield 7, 3) := by decide +kernel
theorem dX6_init_13 : decode cX6_init 13 = .ok (.aload_n 0, 1) := by decide +kernel
theorem dX6_init_14 : decode cX6_init 14 = .ok (.bipush 60, 2) := by decide +kernel
theorem dX6_init_16 : decode cX6_init 16 = .ok (.newarray .int, 2) := by decide +kernel
theorem dX6_init_18 : decode cX6_init 18 = .ok (.putfield 13, 3) := by decide +kernel
theorem dX6_init_21 : decode cX6_init 21 = .ok (.aload_n 0, 1) := by decide +kernel
theorem dX6_init_22 : decode cX6_init 22 = .ok (.bipush 6, 2) := by decide +kernel
theorem dX6_init_24 : decode cX6_init 24 = .ok (.newarray .int, 2) := by decide +kernel
theorem dX6_init_26 : decode cX6_init 26 = .ok (.putfield 16, 3) := by decide +kernel
theorem dX6_init_29 : decode cX6_init 29 = .ok (.aload_n 0, 1) := by decide +kernel
theorem dX6_init_30 : decode cX6_init 30 = .ok (.bipush 6, 2) := by decide +kernel
theorem dX6_init_32 : decode cX6_init 32 = .ok (.newarray .int, 2) := by decide +kernel
theorem dX6_init_34 : decode cX6_init 34 = .ok (.putfield 19, 3) := by decide +kernel
theorem dX6_init_37 : decode cX6_init 37 = .ok (.iconst 0, 1) := by decide +kernel
theorem dX6_init_38 : decode cX6_init 38 = .ok (.istore_n 1, 1) := by decide +kernel
theorem dX6_init_39 : decode cX6_init 39 = .ok (.iload_n 1, 1) := by decide +kernel
theorem dX6_init_40 : decode cX6_init 40 = .ok (.bipush 6, 2) := by decide +kernel
theorem dX6_init_42 : decode cX6_init 42 = .ok (.if_icmp .ge 20, 3) := by decide +kernel
theorem dX6_init_45 : decode cX6_init 45 = .ok (.aload_n 0, 1) := by decide +kernel
theorem dX6_init_46 : decode cX6_init 46 = .ok (.getfield 7, 3) := by decide +kernel
theorem dX6_init_49 : decode cX6_init 49 = .ok (.iconst 4, 1) := by decide +kernel
theorem dX6_init_50 : decode cX6_init 50 = .ok (.iconst 2, 1) := by decide +kernel
theorem dX6_init_51 : decode cX6_init 51 = .ok (.iload_n 1, 1) := by decide +kernel
theorem dX6_init_52 : decode cX6_init 52 = .ok (.imul, 1) := by decide +kernel
theorem dX6_init_53 : decode cX6_init 53 = .ok (.iadd, 1) := by decide +kernel
theorem dX6_init_54 : decode cX6_init 54 = .ok (.iconst 3, 1) := by decide +kernel
theorem dX6_init_55 : decode cX6_init 55 = .ok (.iastore, 1) := by decide +kernel
theorem dX6_init_56 : decode cX6_init 56 = .ok (.iinc 1 1, 3) := by decide +kernel
theorem dX6_init_59 : decode cX6_init 59 = .ok (.goto (-20), 3) := by decide +kernel
theorem dX6_init_62 : decode cX6_init 62 = .ok (.return_, 1) := by decide +kernel
theorem dX6_in_0 : decode cX6_in 0 = .ok (.iload_n 0, 1) := by decide +kernel
theorem dX6_in_1 : decode cX6_in 1 = .ok (.iload_n 1, 1) := by decide +kernel
theorem dX6_in_2 : decode cX6_in 2 = .ok (.if_icmp .lt 12, 3) := by decide +kernel
theorem dX6_in_5 : decode cX6_in 5 = .ok (.iload_n 0, 1) := by decide +kernel
theorem dX6_in_6 : decode cX6_in 6 = .ok (.iload_n 2, 1) := by decide +kernel
theorem dX6_in_7 : decode cX6_in 7 = .ok (.if_icmp .gt 7, 3) := by decide +kernel
theorem dX6_in_10 : decode cX6_in 10 = .ok (.iconst 1, 1) := by decide +kernel
theorem dX6_in_11 : decode cX6_in 11 = .ok (.goto 4, 3) := by decide +kernel
theorem dX6_in_14 : decode cX6_in 14 = .ok (.iconst 0, 1) := by decide +kernel
theorem dX6_in_15 : decode cX6_in 15 = .ok (.ireturn, 1) := by decide +kernel
theorem dX6_flag_0 : decode cX6_flag 0 = .ok (.iload_n 0, 1) := by decide +kernel
theorem dX6_flag_1 : decode cX6_flag 1 = .ok (.ifCond .eq 7, 3) := by decide +kernel
theorem dX6_flag_4 : decode cX6_flag 4 = .ok (.iconst 1, 1) := by decide +kernel
theorem dX6_flag_5 : decode cX6_flag 5 = .ok (.goto 4, 3) := by decide +kernel
theorem dX6_flag_8 : decode cX6_flag 8 = .ok (.iconst 0, 1) := by decide +kernel
theorem dX6_flag_9 : decode cX6_flag 9 = .ok (.ireturn, 1) := by decide +kernel
theorem dX6_less_0 : decode cX6_less 0 = .ok (.iload_n 0, 1) := by decide +kernel
theorem dX6_less_1 : decode cX6_less 1 = .ok (.iload_n 1, 1) := by decide +kernel
theorem dX6_less_2 : decode cX6_less 2 = .ok (.if_icmp .ge 7, 3) := by decide +kernel
theorem dX6_less_5 : decode cX6_less 5 = .ok (.iload_n 0, 1) := by decide +kernel
theorem dX6_less_6 : decode cX6_less 6 = .ok (.goto 4, 3) := by decide +kernel
theorem dX6_less_9 : decode cX6_less 9 = .ok (.iload_n 1, 1) := by decide +kernel
theorem dX6_less_10 : decode cX6_less 10 = .ok (.ireturn, 1) := by decide +kernel
theorem dX6_copies_0 : decode cX6_copies 0 = .ok (.iconst 0, 1) := by decide +kernel
theorem dX6_copies_1 : decode cX6_copies 1 = .ok (.istore_n 3, 1) := by decide +kernel
theorem dX6_copies_2 : decode cX6_copies 2 = .ok (.iload_n 3, 1) := by decide +kernel
theorem dX6_copies_3 : decode cX6_copies 3 = .ok (.sipush 256, 3) := by decide +kernel
theorem dX6_copies_6 : decode cX6_copies 6 = .ok (.if_icmp .ge 33, 3) := by decide +kernel
theorem dX6_copies_9 : decode cX6_copies 9 = .ok (.aload_n 0, 1) := by decide +kernel
theorem dX6_copies_10 : decode cX6_copies 10 = .ok (.getfield 7, 3) := by decide +kernel
theorem dX6_copies_13 : decode cX6_copies 13 = .ok (.sipush 256, 3) := by decide +kernel
theorem dX6_copies_16 : decode cX6_copies 16 = .ok (.iload_n 2, 1) := by decide +kernel
theorem dX6_copies_17 : decode cX6_copies 17 = .ok (.imul, 1) := by decide +kernel
theorem dX6_copies_18 : decode cX6_copies 18 = .ok (.iload_n 3, 1) := by decide +kernel
theorem dX6_copies_19 : decode cX6_copies 19 = .ok (.iadd, 1) := by decide +kernel
theorem dX6_copies_20 : decode cX6_copies 20 = .ok (.aload_n 0, 1) := by decide +kernel
theorem dX6_copies_21 : decode cX6_copies 21 = .ok (.getfield 7, 3) := by decide +kernel
theorem dX6_copies_24 : decode cX6_copies 24 = .ok (.sipush 256, 3) := by decide +kernel
theorem dX6_copies_27 : decode cX6_copies 27 = .ok (.iload_n 1, 1) := by decide +kernel
theorem dX6_copies_28 : decode cX6_copies 28 = .ok (.imul, 1) := by decide +kernel
theorem dX6_copies_29 : decode cX6_copies 29 = .ok (.iload_n 3, 1) := by decide +kernel
theorem dX6_copies_30 : decode cX6_copies 30 = .ok (.iadd, 1) := by decide +kernel
theorem dX6_copies_31 : decode cX6_copies 31 = .ok (.iaload, 1) := by decide +kernel
theorem dX6_copies_32 : decode cX6_copies 32 = .ok (.iastore, 1) := by decide +kernel
theorem dX6_copies_33 : decode cX6_copies 33 = .ok (.iinc 3 1, 3) := by decide +kernel
theorem dX6_copies_36 : decode cX6_copies 36 = .ok (.goto (-34), 3) := by decide +kernel
theorem dX6_copies_39 : decode cX6_copies 39 = .ok (.return_, 1) := by decide +kernel
set_option maxRecDepth 20000 in
theorem ggX6_records_X6_copies : GoodIn wsX6_records wsX6_copies := goodIn_r _ [6, 7, 8, 9, 10, 11, 12, 13, 14, 15, 16, 17, 18, 19, 20] (by decide +kernel) (by decide +kernel)
set_option maxRecDepth 20000 in
theorem gX6_records_X6_copies : GoodIn wsX6_records (wsV RX6 26 RX6 yX6_copies wsX6_copies) := goodIn_app (goodIn_of _ (by decide +kernel)) ggX6_records_X6_copies
theorem dX6_records_0 : decode cX6_records 0 = .ok (.aload_n 0, 1) := by decide +kernel
theorem dX6_records_1 : decode cX6_records 1 = .ok (.getfield 22, 3) := by decide +kernel
theorem dX6_records_4 : decode cX6_records 4 = .ok (.iconst 5, 1) := by decide +kernel
theorem dX6_records_5 : decode cX6_records 5 = .ok (.if_icmp .ne 34, 3) := by decide +kernel
theorem dX6_records_8 : decode cX6_records 8 = .ok (.iconst 1, 1) := by decide +kernel
theorem dX6_records_9 : decode cX6_records 9 = .ok (.istore_n 1, 1) := by decide +kernel
theorem dX6_records_10 : decode cX6_records 10 = .ok (.iload_n 1, 1) := by decide +kernel
theorem dX6_records_11 : decode cX6_records 11 = .ok (.iconst 5, 1) := by decide +kernel
theorem dX6_records_12 : decode cX6_records 12 = .ok (.if_icmp .ge 17, 3) := by decide +kernel
theorem dX6_records_15 : decode cX6_records 15 = .ok (.aload_n 0, 1) := by decide +kernel
theorem dX6_records_16 : decode cX6_records 16 = .ok (.iload_n 1, 1) := by decide +kernel
theorem dX6_records_17 : decode cX6_records 17 = .ok (.iconst 1, 1) := by decide +kernel
theorem dX6_records_18 : decode cX6_records 18 = .ok (.iadd, 1) := by decide +kernel
theorem dX6_records_19 : decode cX6_records 19 = .ok (.iload_n 1, 1) := by decide +kernel
theorem dX6_records_20 : decode cX6_records 20 = .ok (.invokevirtual 26, 3) := by decide +kernel
theorem dX6_records_23 : decode cX6_records 23 = .ok (.iinc 1 1, 3) := by decide +kernel
theorem dX6_records_26 : decode cX6_records 26 = .ok (.goto (-16), 3) := by decide +kernel
theorem dX6_records_29 : decode cX6_records 29 = .ok (.aload_n 0, 1) := by decide +kernel
theorem dX6_records_30 : decode cX6_records 30 = .ok (.dup, 1) := by decide +kernel
theorem dX6_records_31 : decode cX6_records 31 = .ok (.getfield 22, 3) := by decide +kernel
theorem dX6_records_34 : decode cX6_records 34 = .ok (.iconst 1, 1) := by decide +kernel
theorem dX6_records_35 : decode cX6_records 35 = .ok (.isub, 1) := by decide +kernel
theorem dX6_records_36 : decode cX6_records 36 = .ok (.putfield 22, 3) := by decide +kernel
theorem dX6_records_39 : decode cX6_records 39 = .ok (.aload_n 0, 1) := by decide +kernel
theorem dX6_records_40 : decode cX6_records 40 = .ok (.dup, 1) := by decide +kernel
theorem dX6_records_41 : decode cX6_records 41 = .ok (.getfield 22, 3) := by decide +kernel
theorem dX6_records_44 : decode cX6_records 44 = .ok (.iconst 1, 1) := by decide +kernel
theorem dX6_records_45 : decode cX6_records 45 = .ok (.iadd, 1) := by decide +kernel
theorem dX6_records_46 : decode cX6_records 46 = .ok (.putfield 22, 3) := by decide +kernel
theorem dX6_records_49 : decode cX6_records 49 = .ok (.aload_n 0, 1) := by decide +kernel
theorem dX6_records_50 : decode cX6_records 50 = .ok (.iconst 0, 1) := by decide +kernel
theorem dX6_records_51 : decode cX6_records 51 = .ok (.aload_n 0, 1) := by decide +kernel
theorem dX6_records_52 : decode cX6_records 52 = .ok (.getfield 22, 3) := by decide +kernel
theorem dX6_records_55 : decode cX6_records 55 = .ok (.invokevirtual 26, 3) := by decide +kernel
theorem dX6_records_58 : decode cX6_records 58 = .ok (.return_, 1) := by decide +kernel
theorem dX6_at_0 : decode cX6_at 0 = .ok (.iload_n 0, 1) := by decide +kernel
theorem dX6_at_1 : decode cX6_at 1 = .ok (.bipush 16, 2) := by decide +kernel
theorem dX6_at_3 : decode cX6_at 3 = .ok (.iadd, 1) := by decide +kernel
theorem dX6_at_4 : decode cX6_at 4 = .ok (.bipush 8, 2) := by decide +kernel
theorem dX6_at_6 : decode cX6_at 6 = .ok (.iload_n 1, 1) := by decide +kernel
theorem dX6_at_7 : decode cX6_at 7 = .ok (.imul, 1) := by decide +kernel
theorem dX6_at_8 : decode cX6_at 8 = .ok (.iadd, 1) := by decide +kernel
theorem dX6_at_9 : decode cX6_at 9 = .ok (.ireturn, 1) := by decide +kernel
theorem dX6_smashes_0 : decode cX6_smashes 0 = .ok (.aload_n 0, 1) := by decide +kernel
theorem dX6_smashes_1 : decode cX6_smashes 1 = .ok (.getfield 7, 3) := by decide +kernel
theorem dX6_smashes_4 : decode cX6_smashes 4 = .ok (.iload_n 1, 1) := by decide +kernel
theorem dX6_smashes_5 : decode cX6_smashes 5 = .ok (.bipush 6, 2) := by decide +kernel
theorem dX6_smashes_7 : decode cX6_smashes 7 = .ok (.iadd, 1) := by decide +kernel
theorem dX6_smashes_8 : decode cX6_smashes 8 = .ok (.iconst 2, 1) := by decide +kernel
theorem dX6_smashes_9 : decode cX6_smashes 9 = .ok (.iastore, 1) := by decide +kernel
theorem dX6_smashes_10 : decode cX6_smashes 10 = .ok (.aload_n 0, 1) := by decide +kernel
theorem dX6_smashes_11 : decode cX6_smashes 11 = .ok (.getfield 7, 3) := by decide +kernel
theorem dX6_smashes_14 : decode cX6_smashes 14 = .ok (.iload_n 1, 1) := by decide +kernel
theorem dX6_smashes_15 : decode cX6_smashes 15 = .ok (.iconst 4, 1) := by decide +kernel
theorem dX6_smashes_16 : decode cX6_smashes 16 = .ok (.iadd, 1) := by decide +kernel
theorem dX6_smashes_17 : decode cX6_smashes 17 = .ok (.iconst 0, 1) := by decide +kernel
theorem dX6_smashes_18 : decode cX6_smashes 18 = .ok (.iastore, 1) := by decide +kernel
theorem dX6_smashes_19 : decode cX6_smashes 19 = .ok (.aload_n 0, 1) := by decide +kernel
theorem dX6_smashes_20 : decode cX6_smashes 20 = .ok (.getfield 7, 3) := by decide +kernel
theorem dX6_smashes_23 : decode cX6_smashes 23 = .ok (.iload_n 1, 1) := by decide +kernel
theorem dX6_smashes_24 : decode cX6_smashes 24 = .ok (.iconst 5, 1) := by decide +kernel
theorem dX6_smashes_25 : decode cX6_smashes 25 = .ok (.iadd, 1) := by decide +kernel
theorem dX6_smashes_26 : decode cX6_smashes 26 = .ok (.bipush (-5), 2) := by decide +kernel
theorem dX6_smashes_28 : decode cX6_smashes 28 = .ok (.iastore, 1) := by decide +kernel
theorem dX6_smashes_29 : decode cX6_smashes 29 = .ok (.aload_n 0, 1) := by decide +kernel
theorem dX6_smashes_30 : decode cX6_smashes 30 = .ok (.getfield 7, 3) := by decide +kernel
theorem dX6_smashes_33 : decode cX6_smashes 33 = .ok (.iload_n 1, 1) := by decide +kernel
theorem dX6_smashes_34 : decode cX6_smashes 34 = .ok (.bipush 7, 2) := by decide +kernel
theorem dX6_smashes_36 : decode cX6_smashes 36 = .ok (.iadd, 1) := by decide +kernel
theorem dX6_smashes_37 : decode cX6_smashes 37 = .ok (.iload_n 2, 1) := by decide +kernel
theorem dX6_smashes_38 : decode cX6_smashes 38 = .ok (.iastore, 1) := by decide +kernel
theorem dX6_smashes_39 : decode cX6_smashes 39 = .ok (.return_, 1) := by decide +kernel
set_option maxRecDepth 20000 in
theorem ggX6_strikes_X6_at : GoodIn wsX6_strikes wsX6_at := goodIn_r _ [5] (by decide +kernel) (by decide +kernel)
set_option maxRecDepth 20000 in
theorem gX6_strikes_X6_at : GoodIn wsX6_strikes (va_wsS RX6 30 yX6_at wsX6_at) := goodIn_app (goodIn_of _ (by decide +kernel)) ggX6_strikes_X6_at
set_option maxRecDepth 20000 in
theorem ggX6_strikes_X6_less : GoodIn wsX6_strikes wsX6_less := goodIn_r _ [8] (by decide +kernel) (by decide +kernel)
set_option maxRecDepth 20000 in
theorem gX6_strikes_X6_less : GoodIn wsX6_strikes (va_wsS RX6 34 yX6_less wsX6_less) := goodIn_app (goodIn_of _ (by decide +kernel)) ggX6_strikes_X6_less
set_option maxRecDepth 20000 in
theorem ggX6_strikes_X6_smashes : GoodIn wsX6_strikes wsX6_smashes := goodIn_r _ [12, 1, 16, 17, 18, 19, 20, 21, 22, 23, 24, 25, 26, 27, 28] (by decide +kernel) (by decide +kernel)
set_option maxRecDepth 20000 in
theorem gX6_strikes_X6_smashes : GoodIn wsX6_strikes (wsV RX6 37 RX6 yX6_smashes wsX6_smashes) := goodIn_app (goodIn_of _ (by decide +kernel)) ggX6_strikes_X6_smashes
set_option maxRecDepth 20000 in
theorem ggX6_strikes_X6_flag : GoodIn wsX6_strikes wsX6_flag := goodIn_r _ [15] (by decide +kernel) (by decide +kernel)
set_option maxRecDepth 20000 in
theorem gX6_strikes_X6_flag : GoodIn wsX6_strikes (va_wsS RX6 40 yX6_flag wsX6_flag) := goodIn_app (goodIn_of _ (by decide +kernel)) ggX6_strikes_X6_flag
theorem dX6_strikes_0 : decode cX6_strikes 0 = .ok (.iload_n 1, 1) := by decide +kernel
theorem dX6_strikes_1 : decode cX6_strikes 1 = .ok (.iload_n 2, 1) := by decide +kernel
theorem dX6_strikes_2 : decode cX6_strikes 2 = .ok (.invokestatic 30, 3) := by decide +kernel
theorem dX6_strikes_5 : decode cX6_strikes 5 = .ok (.istore 5, 2) := by decide +kernel
theorem dX6_strikes_7 : decode cX6_strikes 7 = .ok (.iload_n 1, 1) := by decide +kernel
theorem dX6_strikes_8 : decode cX6_strikes 8 = .ok (.iload_n 3, 1) := by decide +kernel
theorem dX6_strikes_9 : decode cX6_strikes 9 = .ok (.invokestatic 30, 3) := by decide +kernel
theorem dX6_strikes_12 : decode cX6_strikes 12 = .ok (.istore 6, 2) := by decide +kernel
theorem dX6_strikes_14 : decode cX6_strikes 14 = .ok (.aload_n 0, 1) := by decide +kernel
theorem dX6_strikes_15 : decode cX6_strikes 15 = .ok (.getfield 7, 3) := by decide +kernel
theorem dX6_strikes_18 : decode cX6_strikes 18 = .ok (.iload 6, 2) := by decide +kernel
theorem dX6_strikes_20 : decode cX6_strikes 20 = .ok (.iconst 2, 1) := by decide +kernel
theorem dX6_strikes_21 : decode cX6_strikes 21 = .ok (.iadd, 1) := by decide +kernel
theorem dX6_strikes_22 : decode cX6_strikes 22 = .ok (.aload_n 0, 1) := by decide +kernel
theorem dX6_strikes_23 : decode cX6_strikes 23 = .ok (.getfield 7, 3) := by decide +kernel
theorem dX6_strikes_26 : decode cX6_strikes 26 = .ok (.iload 6, 2) := by decide +kernel
theorem dX6_strikes_28 : decode cX6_strikes 28 = .ok (.iconst 2, 1) := by decide +kernel
theorem dX6_strikes_29 : decode cX6_strikes 29 = .ok (.iadd, 1) := by decide +kernel
theorem dX6_strikes_30 : decode cX6_strikes 30 = .ok (.iaload, 1) := by decide +kernel
theorem dX6_strikes_31 : decode cX6_strikes 31 = .ok (.iload 4, 2) := by decide +kernel
theorem dX6_strikes_33 : decode cX6_strikes 33 = .ok (.aload_n 0, 1) := by decide +kernel
theorem dX6_strikes_34 : decode cX6_strikes 34 = .ok (.getfield 7, 3) := by decide +kernel
theorem dX6_strikes_37 : decode cX6_strikes 37 = .ok (.iload 5, 2) := by decide +kernel
theorem dX6_strikes_39 : decode cX6_strikes 39 = .ok (.iconst 1, 1) := by decide +kernel
theorem dX6_strikes_40 : decode cX6_strikes 40 = .ok (.iadd, 1) := by decide +kernel
theorem dX6_strikes_41 : decode cX6_strikes 41 = .ok (.iaload, 1) := by decide +kernel
theorem dX6_strikes_42 : decode cX6_strikes 42 = .ok (.imul, 1) := by decide +kernel
theorem dX6_strikes_43 : decode cX6_strikes 43 = .ok (.aload_n 0, 1) := by decide +kernel
theorem dX6_strikes_44 : decode cX6_strikes 44 = .ok (.getfield 7, 3) := by decide +kernel
theorem dX6_strikes_47 : decode cX6_strikes 47 = .ok (.iload 6, 2) := by decide +kernel
theorem dX6_strikes_49 : decode cX6_strikes 49 = .ok (.iconst 1, 1) := by decide +kernel
theorem dX6_strikes_50 : decode cX6_strikes 50 = .ok (.iadd, 1) := by decide +kernel
theorem dX6_strikes_51 : decode cX6_strikes 51 = .ok (.iaload, 1) := by decide +kernel
theorem dX6_strikes_52 : decode cX6_strikes 52 = .ok (.idiv, 1) := by decide +kernel
theorem dX6_strikes_53 : decode cX6_strikes 53 = .ok (.iadd, 1) := by decide +kernel
theorem dX6_strikes_54 : decode cX6_strikes 54 = .ok (.bipush 100, 2) := by decide +kernel
theorem dX6_strikes_56 : decode cX6_strikes 56 = .ok (.invokestatic 34, 3) := by decide +kernel
theorem dX6_strikes_59 : decode cX6_strikes 59 = .ok (.iastore, 1) := by decide +kernel
theorem dX6_strikes_60 : decode cX6_strikes 60 = .ok (.aload_n 0, 1) := by decide +kernel
theorem dX6_strikes_61 : decode cX6_strikes 61 = .ok (.getfield 7, 3) := by decide +kernel
theorem dX6_strikes_64 : decode cX6_strikes 64 = .ok (.iload 5, 2) := by decide +kernel
theorem dX6_strikes_66 : decode cX6_strikes 66 = .ok (.iconst 2, 1) := by decide +kernel
theorem dX6_strikes_67 : decode cX6_strikes 67 = .ok (.iadd, 1) := by decide +kernel
theorem dX6_strikes_68 : decode cX6_strikes 68 = .ok (.aload_n 0, 1) := by decide +kernel
theorem dX6_strikes_69 : decode cX6_strikes 69 = .ok (.getfield 7, 3) := by decide +kernel
theorem dX6_strikes_72 : decode cX6_strikes 72 = .ok (.iload 5, 2) := by decide +kernel
theorem dX6_strikes_74 : decode cX6_strikes 74 = .ok (.iconst 2, 1) := by decide +kernel
theorem dX6_strikes_75 : decode cX6_strikes 75 = .ok (.iadd, 1) := by decide +kernel
theorem dX6_strikes_76 : decode cX6_strikes 76 = .ok (.iaload, 1) := by decide +kernel
theorem dX6_strikes_77 : decode cX6_strikes 77 = .ok (.iload 4, 2) := by decide +kernel
theorem dX6_strikes_79 : decode cX6_strikes 79 = .ok (.aload_n 0, 1) := by decide +kernel
theorem dX6_strikes_80 : decode cX6_strikes 80 = .ok (.getfield 7, 3) := by decide +kernel
theorem dX6_strikes_83 : decode cX6_strikes 83 = .ok (.iload 6, 2) := by decide +kernel
theorem dX6_strikes_85 : decode cX6_strikes 85 = .ok (.iconst 1, 1) := by decide +kernel
theorem dX6_strikes_86 : decode cX6_strikes 86 = .ok (.iadd, 1) := by decide +kernel
theorem dX6_strikes_87 : decode cX6_strikes 87 = .ok (.iaload, 1) := by decide +kernel
theorem dX6_strikes_88 : decode cX6_strikes 88 = .ok (.imul, 1) := by decide +kernel
theorem dX6_strikes_89 : decode cX6_strikes 89 = .ok (.iconst 2, 1) := by decide +kernel
theorem dX6_strikes_90 : decode cX6_strikes 90 = .ok (.aload_n 0, 1) := by decide +kernel
theorem dX6_strikes_91 : decode cX6_strikes 91 = .ok (.getfield 7, 3) := by decide +kernel
theorem dX6_strikes_94 : decode cX6_strikes 94 = .ok (.iload 5, 2) := by decide +kernel
theorem dX6_strikes_96 : decode cX6_strikes 96 = .ok (.iconst 1, 1) := by decide +kernel
theorem dX6_strikes_97 : decode cX6_strikes 97 = .ok (.iadd, 1) := by decide +kernel
theorem dX6_strikes_98 : decode cX6_strikes 98 = .ok (.iaload, 1) := by decide +kernel
theorem dX6_strikes_99 : decode cX6_strikes 99 = .ok (.imul, 1) := by decide +kernel
theorem dX6_strikes_100 : decode cX6_strikes 100 = .ok (.idiv, 1) := by decide +kernel
theorem dX6_strikes_101 : decode cX6_strikes 101 = .ok (.iadd, 1) := by decide +kernel
theorem dX6_strikes_102 : decode cX6_strikes 102 = .ok (.bipush 100, 2) := by decide +kernel
theorem dX6_strikes_104 : decode cX6_strikes 104 = .ok (.invokestatic 34, 3) := by decide +kernel
theorem dX6_strikes_107 : decode cX6_strikes 107 = .ok (.iastore, 1) := by decide +kernel
theorem dX6_strikes_108 : decode cX6_strikes 108 = .ok (.aload_n 0, 1) := by decide +kernel
theorem dX6_strikes_109 : decode cX6_strikes 109 = .ok (.getfield 7, 3) := by decide +kernel
theorem dX6_strikes_112 : decode cX6_strikes 112 = .ok (.iload 5, 2) := by decide +kernel
theorem dX6_strikes_114 : decode cX6_strikes 114 = .ok (.iconst 3, 1) := by decide +kernel
theorem dX6_strikes_115 : decode cX6_strikes 115 = .ok (.iadd, 1) := by decide +kernel
theorem dX6_strikes_116 : decode cX6_strikes 116 = .ok (.aload_n 0, 1) := by decide +kernel
theorem dX6_strikes_117 : decode cX6_strikes 117 = .ok (.getfield 7, 3) := by decide +kernel
theorem dX6_strikes_120 : decode cX6_strikes 120 = .ok (.iload 5, 2) := by decide +kernel
theorem dX6_strikes_122 : decode cX6_strikes 122 = .ok (.iconst 3, 1) := by decide +kernel
theorem dX6_strikes_123 : decode cX6_strikes 123 = .ok (.iadd, 1) := by decide +kernel
theorem dX6_strikes_124 : decode cX6_strikes 124 = .ok (.iaload, 1) := by decide +kernel
theorem dX6_strikes_125 : decode cX6_strikes 125 = .ok (.iload 4, 2) := by decide +kernel
theorem dX6_strikes_127 : decode cX6_strikes 127 = .ok (.bipush 6, 2) := by decide +kernel
theorem dX6_strikes_129 : decode cX6_strikes 129 = .ok (.if_icmp .le 7, 3) := by decide +kernel
theorem dX6_strikes_132 : decode cX6_strikes 132 = .ok (.iconst 2, 1) := by decide +kernel
theorem dX6_strikes_133 : decode cX6_strikes 133 = .ok (.goto 4, 3) := by decide +kernel
theorem dX6_strikes_136 : decode cX6_strikes 136 = .ok (.iconst 1, 1) := by decide +kernel
theorem dX6_strikes_137 : decode cX6_strikes 137 = .ok (.iadd, 1) := by decide +kernel
theorem dX6_strikes_138 : decode cX6_strikes 138 = .ok (.bipush 20, 2) := by decide +kernel
theorem dX6_strikes_140 : decode cX6_strikes 140 = .ok (.invokestatic 34, 3) := by decide +kernel
theorem dX6_strikes_143 : decode cX6_strikes 143 = .ok (.iastore, 1) := by decide +kernel
theorem dX6_strikes_144 : decode cX6_strikes 144 = .ok (.aload_n 0, 1) := by decide +kernel
theorem dX6_strikes_145 : decode cX6_strikes 145 = .ok (.getfield 7, 3) := by decide +kernel
theorem dX6_strikes_148 : decode cX6_strikes 148 = .ok (.iload 6, 2) := by decide +kernel
theorem dX6_strikes_150 : decode cX6_strikes 150 = .ok (.iconst 3, 1) := by decide +kernel
theorem dX6_strikes_151 : decode cX6_strikes 151 = .ok (.iadd, 1) := by decide +kernel
theorem dX6_strikes_152 : decode cX6_strikes 152 = .ok (.aload_n 0, 1) := by decide +kernel
theorem dX6_strikes_153 : decode cX6_strikes 153 = .ok (.getfield 7, 3) := by decide +kernel
theorem dX6_strikes_156 : decode cX6_strikes 156 = .ok (.iload 6, 2) := by decide +kernel
theorem dX6_strikes_158 : decode cX6_strikes 158 = .ok (.iconst 3, 1) := by decide +kernel
theorem dX6_strikes_159 : decode cX6_strikes 159 = .ok (.iadd, 1) := by decide +kernel
theorem dX6_strikes_160 : decode cX6_strikes 160 = .ok (.iaload, 1) := by decide +kernel
theorem dX6_strikes_161 : decode cX6_strikes 161 = .ok (.iconst 1, 1) := by decide +kernel
theorem dX6_strikes_162 : decode cX6_strikes 162 = .ok (.iadd, 1) := by decide +kernel
theorem dX6_strikes_163 : decode cX6_strikes 163 = .ok (.bipush 20, 2) := by decide +kernel
theorem dX6_strikes_165 : decode cX6_strikes 165 = .ok (.invokestatic 34, 3) := by decide +kernel
theorem dX6_strikes_168 : decode cX6_strikes 168 = .ok (.iastore, 1) := by decide +kernel
theorem dX6_strikes_169 : decode cX6_strikes 169 = .ok (.aload_n 0, 1) := by decide +kernel
theorem dX6_strikes_170 : decode cX6_strikes 170 = .ok (.getfield 7, 3) := by decide +kernel
theorem dX6_strikes_173 : decode cX6_strikes 173 = .ok (.iload_n 1, 1) := by decide +kernel
theorem dX6_strikes_174 : decode cX6_strikes 174 = .ok (.iconst 2, 1) := by decide +kernel
theorem dX6_strikes_175 : decode cX6_strikes 175 = .ok (.iadd, 1) := by decide +kernel
theorem dX6_strikes_176 : decode cX6_strikes 176 = .ok (.dup2, 1) := by decide +kernel
theorem dX6_strikes_177 : decode cX6_strikes 177 = .ok (.iaload, 1) := by decide +kernel
theorem dX6_strikes_178 : decode cX6_strikes 178 = .ok (.iconst 1, 1) := by decide +kernel
theorem dX6_strikes_179 : decode cX6_strikes 179 = .ok (.iadd, 1) := by decide +kernel
theorem dX6_strikes_180 : decode cX6_strikes 180 = .ok (.iastore, 1) := by decide +kernel
theorem dX6_strikes_181 : decode cX6_strikes 181 = .ok (.aload_n 0, 1) := by decide +kernel
theorem dX6_strikes_182 : decode cX6_strikes 182 = .ok (.getfield 7, 3) := by decide +kernel
theorem dX6_strikes_185 : decode cX6_strikes 185 = .ok (.iload 5, 2) := by decide +kernel
theorem dX6_strikes_187 : decode cX6_strikes 187 = .ok (.iconst 2, 1) := by decide +kernel
theorem dX6_strikes_188 : decode cX6_strikes 188 = .ok (.iadd, 1) := by decide +kernel
theorem dX6_strikes_189 : decode cX6_strikes 189 = .ok (.iaload, 1) := by decide +kernel
theorem dX6_strikes_190 : decode cX6_strikes 190 = .ok (.bipush 100, 2) := by decide +kernel
theorem dX6_strikes_192 : decode cX6_strikes 192 = .ok (.if_icmp .ne 7, 3) := by decide +kernel
theorem dX6_strikes_195 : decode cX6_strikes 195 = .ok (.iconst 1, 1) := by decide +kernel
theorem dX6_strikes_196 : decode cX6_strikes 196 = .ok (.goto 4, 3) := by decide +kernel
theorem dX6_strikes_199 : decode cX6_strikes 199 = .ok (.iconst 0, 1) := by decide +kernel
theorem dX6_strikes_200 : decode cX6_strikes 200 = .ok (.istore 7, 2) := by decide +kernel
theorem dX6_strikes_202 : decode cX6_strikes 202 = .ok (.aload_n 0, 1) := by decide +kernel
theorem dX6_strikes_203 : decode cX6_strikes 203 = .ok (.getfield 7, 3) := by decide +kernel
theorem dX6_strikes_206 : decode cX6_strikes 206 = .ok (.iload 6, 2) := by decide +kernel
theorem dX6_strikes_208 : decode cX6_strikes 208 = .ok (.iconst 2, 1) := by decide +kernel
theorem dX6_strikes_209 : decode cX6_strikes 209 = .ok (.iadd, 1) := by decide +kernel
theorem dX6_strikes_210 : decode cX6_strikes 210 = .ok (.iaload, 1) := by decide +kernel
theorem dX6_strikes_211 : decode cX6_strikes 211 = .ok (.bipush 100, 2) := by decide +kernel
theorem dX6_strikes_213 : decode cX6_strikes 213 = .ok (.if_icmp .ne 7, 3) := by decide +kernel
theorem dX6_strikes_216 : decode cX6_strikes 216 = .ok (.iconst 1, 1) := by decide +kernel
theorem dX6_strikes_217 : decode cX6_strikes 217 = .ok (.goto 4, 3) := by decide +kernel
theorem dX6_strikes_220 : decode cX6_strikes 220 = .ok (.iconst 0, 1) := by decide +kernel
theorem dX6_strikes_221 : decode cX6_strikes 221 = .ok (.istore 8, 2) := by decide +kernel
theorem dX6_strikes_223 : decode cX6_strikes 223 = .ok (.iload 7, 2) := by decide +kernel
theorem dX6_strikes_225 : decode cX6_strikes 225 = .ok (.ifCond .eq 57, 3) := by decide +kernel
theorem dX6_strikes_228 : decode cX6_strikes 228 = .ok (.iload 8, 2) := by decide +kernel
theorem dX6_strikes_230 : decode cX6_strikes 230 = .ok (.ifCond .eq 52, 3) := by decide +kernel
theorem dX6_strikes_233 : decode cX6_strikes 233 = .ok (.aload_n 0, 1) := by decide +kernel
theorem dX6_strikes_234 : decode cX6_strikes 234 = .ok (.getfield 7, 3) := by decide +kernel
theorem dX6_strikes_237 : decode cX6_strikes 237 = .ok (.iload_n 1, 1) := by decide +kernel
theorem dX6_strikes_238 : decode cX6_strikes 238 = .ok (.iconst 1, 1) := by decide +kernel
theorem dX6_strikes_239 : decode cX6_strikes 239 = .ok (.iadd, 1) := by decide +kernel
theorem dX6_strikes_240 : decode cX6_strikes 240 = .ok (.dup2, 1) := by decide +kernel
theorem dX6_strikes_241 : decode cX6_strikes 241 = .ok (.iaload, 1) := by decide +kernel
theorem dX6_strikes_242 : decode cX6_strikes 242 = .ok (.aload_n 0, 1) := by decide +kernel
theorem dX6_strikes_243 : decode cX6_strikes 243 = .ok (.getfield 7, 3) := by decide +kernel
theorem dX6_strikes_246 : decode cX6_strikes 246 = .ok (.iload 5, 2) := by decide +kernel
theorem dX6_strikes_248 : decode cX6_strikes 248 = .ok (.iconst 4, 1) := by decide +kernel
theorem dX6_strikes_249 : decode cX6_strikes 249 = .ok (.iadd, 1) := by decide +kernel
theorem dX6_strikes_250 : decode cX6_strikes 250 = .ok (.iaload, 1) := by decide +kernel
theorem dX6_strikes_251 : decode cX6_strikes 251 = .ok (.aload_n 0, 1) := by decide +kernel
theorem dX6_strikes_252 : decode cX6_strikes 252 = .ok (.getfield 7, 3) := by decide +kernel
theorem dX6_strikes_255 : decode cX6_strikes 255 = .ok (.iload 6, 2) := by decide +kernel
theorem dX6_strikes_257 : decode cX6_strikes 257 = .ok (.iconst 4, 1) := by decide +kernel
theorem dX6_strikes_258 : decode cX6_strikes 258 = .ok (.iadd, 1) := by decide +kernel
theorem dX6_strikes_259 : decode cX6_strikes 259 = .ok (.iaload, 1) := by decide +kernel
theorem dX6_strikes_260 : decode cX6_strikes 260 = .ok (.iadd, 1) := by decide +kernel
theorem dX6_strikes_261 : decode cX6_strikes 261 = .ok (.iadd, 1) := by decide +kernel
theorem dX6_strikes_262 : decode cX6_strikes 262 = .ok (.iastore, 1) := by decide +kernel
theorem dX6_strikes_263 : decode cX6_strikes 263 = .ok (.aload_n 0, 1) := by decide +kernel
theorem dX6_strikes_264 : decode cX6_strikes 264 = .ok (.iload 5, 2) := by decide +kernel
theorem dX6_strikes_266 : decode cX6_strikes 266 = .ok (.bipush (-5), 2) := by decide +kernel
theorem dX6_strikes_268 : decode cX6_strikes 268 = .ok (.invokevirtual 37, 3) := by decide +kernel
theorem dX6_strikes_271 : decode cX6_strikes 271 = .ok (.aload_n 0, 1) := by decide +kernel
theorem dX6_strikes_272 : decode cX6_strikes 272 = .ok (.iload 6, 2) := by decide +kernel
theorem dX6_strikes_274 : decode cX6_strikes 274 = .ok (.bipush (-5), 2) := by decide +kernel
theorem dX6_strikes_276 : decode cX6_strikes 276 = .ok (.invokevirtual 37, 3) := by decide +kernel
theorem dX6_strikes_279 : decode cX6_strikes 279 = .ok (.goto 92, 3) := by decide +kernel
theorem dX6_strikes_282 : decode cX6_strikes 282 = .ok (.iload 7, 2) := by decide +kernel
theorem dX6_strikes_284 : decode cX6_strikes 284 = .ok (.ifCond .ne 8, 3) := by decide +kernel
theorem dX6_strikes_287 : decode cX6_strikes 287 = .ok (.iload 8, 2) := by decide +kernel
theorem dX6_strikes_289 : decode cX6_strikes 289 = .ok (.ifCond .eq 82, 3) := by decide +kernel
theorem dX6_strikes_292 : decode cX6_strikes 292 = .ok (.iload 7, 2) := by decide +kernel
theorem dX6_strikes_294 : decode cX6_strikes 294 = .ok (.ifCond .eq 8, 3) := by decide +kernel
theorem dX6_strikes_297 : decode cX6_strikes 297 = .ok (.iload 6, 2) := by decide +kernel
theorem dX6_strikes_299 : decode cX6_strikes 299 = .ok (.goto 5, 3) := by decide +kernel
theorem dX6_strikes_302 : decode cX6_strikes 302 = .ok (.iload 5, 2) := by decide +kernel
theorem dX6_strikes_304 : decode cX6_strikes 304 = .ok (.istore 9, 2) := by decide +kernel
theorem dX6_strikes_306 : decode cX6_strikes 306 = .ok (.iload 7, 2) := by decide +kernel
theorem dX6_strikes_308 : decode cX6_strikes 308 = .ok (.ifCond .eq 8, 3) := by decide +kernel
theorem dX6_strikes_311 : decode cX6_strikes 311 = .ok (.iload 5, 2) := by decide +kernel
theorem dX6_strikes_313 : decode cX6_strikes 313 = .ok (.goto 5, 3) := by decide +kernel
theorem dX6_strikes_316 : decode cX6_strikes 316 = .ok (.iload 6, 2) := by decide +kernel
theorem dX6_strikes_318 : decode cX6_strikes 318 = .ok (.istore 10, 2) := by decide +kernel
theorem dX6_strikes_320 : decode cX6_strikes 320 = .ok (.aload_n 0, 1) := by decide +kernel
theorem dX6_strikes_321 : decode cX6_strikes 321 = .ok (.getfield 7, 3) := by decide +kernel
theorem dX6_strikes_324 : decode cX6_strikes 324 = .ok (.iload 9, 2) := by decide +kernel
theorem dX6_strikes_326 : decode cX6_strikes 326 = .ok (.iconst 4, 1) := by decide +kernel
theorem dX6_strikes_327 : decode cX6_strikes 327 = .ok (.iadd, 1) := by decide +kernel
theorem dX6_strikes_328 : decode cX6_strikes 328 = .ok (.dup2, 1) := by decide +kernel
theorem dX6_strikes_329 : decode cX6_strikes 329 = .ok (.iaload, 1) := by decide +kernel
theorem dX6_strikes_330 : decode cX6_strikes 330 = .ok (.iconst 1, 1) := by decide +kernel
theorem dX6_strikes_331 : decode cX6_strikes 331 = .ok (.aload_n 0, 1) := by decide +kernel
theorem dX6_strikes_332 : decode cX6_strikes 332 = .ok (.getfield 7, 3) := by decide +kernel
theorem dX6_strikes_335 : decode cX6_strikes 335 = .ok (.iload 10, 2) := by decide +kernel
theorem dX6_strikes_337 : decode cX6_strikes 337 = .ok (.iconst 4, 1) := by decide +kernel
theorem dX6_strikes_338 : decode cX6_strikes 338 = .ok (.iadd, 1) := by decide +kernel
theorem dX6_strikes_339 : decode cX6_strikes 339 = .ok (.iaload, 1) := by decide +kernel
theorem dX6_strikes_340 : decode cX6_strikes 340 = .ok (.iadd, 1) := by decide +kernel
theorem dX6_strikes_341 : decode cX6_strikes 341 = .ok (.iadd, 1) := by decide +kernel
theorem dX6_strikes_342 : decode cX6_strikes 342 = .ok (.iastore, 1) := by decide +kernel
theorem dX6_strikes_343 : decode cX6_strikes 343 = .ok (.aload_n 0, 1) := by decide +kernel
theorem dX6_strikes_344 : decode cX6_strikes 344 = .ok (.getfield 7, 3) := by decide +kernel
theorem dX6_strikes_347 : decode cX6_strikes 347 = .ok (.iload_n 1, 1) := by decide +kernel
theorem dX6_strikes_348 : decode cX6_strikes 348 = .ok (.iconst 3, 1) := by decide +kernel
theorem dX6_strikes_349 : decode cX6_strikes 349 = .ok (.iadd, 1) := by decide +kernel
theorem dX6_strikes_350 : decode cX6_strikes 350 = .ok (.dup2, 1) := by decide +kernel
theorem dX6_strikes_351 : decode cX6_strikes 351 = .ok (.iaload, 1) := by decide +kernel
theorem dX6_strikes_352 : decode cX6_strikes 352 = .ok (.iconst 1, 1) := by decide +kernel
theorem dX6_strikes_353 : decode cX6_strikes 353 = .ok (.iadd, 1) := by decide +kernel
theorem dX6_strikes_354 : decode cX6_strikes 354 = .ok (.iastore, 1) := by decide +kernel
theorem dX6_strikes_355 : decode cX6_strikes 355 = .ok (.aload_n 0, 1) := by decide +kernel
theorem dX6_strikes_356 : decode cX6_strikes 356 = .ok (.iload 10, 2) := by decide +kernel
theorem dX6_strikes_358 : decode cX6_strikes 358 = .ok (.iload 7, 2) := by decide +kernel
theorem dX6_strikes_360 : decode cX6_strikes 360 = .ok (.ifCond .eq 7, 3) := by decide +kernel
theorem dX6_strikes_363 : decode cX6_strikes 363 = .ok (.iload_n 3, 1) := by decide +kernel
theorem dX6_strikes_364 : decode cX6_strikes 364 = .ok (.goto 4, 3) := by decide +kernel
theorem dX6_strikes_367 : decode cX6_strikes 367 = .ok (.iload_n 2, 1) := by decide +kernel
theorem dX6_strikes_368 : decode cX6_strikes 368 = .ok (.invokevirtual 37, 3) := by decide +kernel
theorem dX6_strikes_371 : decode cX6_strikes 371 = .ok (.iload 7, 2) := by decide +kernel
theorem dX6_strikes_373 : decode cX6_strikes 373 = .ok (.ifCond .ne 21, 3) := by decide +kernel
theorem dX6_strikes_376 : decode cX6_strikes 376 = .ok (.aload_n 0, 1) := by decide +kernel
theorem dX6_strikes_377 : decode cX6_strikes 377 = .ok (.getfield 7, 3) := by decide +kernel
theorem dX6_strikes_380 : decode cX6_strikes 380 = .ok (.iload 5, 2) := by decide +kernel
theorem dX6_strikes_382 : decode cX6_strikes 382 = .ok (.iconst 3, 1) := by decide +kernel
theorem dX6_strikes_383 : decode cX6_strikes 383 = .ok (.iadd, 1) := by decide +kernel
theorem dX6_strikes_384 : decode cX6_strikes 384 = .ok (.iaload, 1) := by decide +kernel
theorem dX6_strikes_385 : decode cX6_strikes 385 = .ok (.bipush 20, 2) := by decide +kernel
theorem dX6_strikes_387 : decode cX6_strikes 387 = .ok (.if_icmp .ne 7, 3) := by decide +kernel
theorem dX6_strikes_390 : decode cX6_strikes 390 = .ok (.iconst 1, 1) := by decide +kernel
theorem dX6_strikes_391 : decode cX6_strikes 391 = .ok (.goto 4, 3) := by decide +kernel
theorem dX6_strikes_394 : decode cX6_strikes 394 = .ok (.iconst 0, 1) := by decide +kernel
theorem dX6_strikes_395 : decode cX6_strikes 395 = .ok (.istore 9, 2) := by decide +kernel
theorem dX6_strikes_397 : decode cX6_strikes 397 = .ok (.iload 8, 2) := by decide +kernel
theorem dX6_strikes_399 : decode cX6_strikes 399 = .ok (.ifCond .ne 21, 3) := by decide +kernel
theorem dX6_strikes_402 : decode cX6_strikes 402 = .ok (.aload_n 0, 1) := by decide +kernel
theorem dX6_strikes_403 : decode cX6_strikes 403 = .ok (.getfield 7, 3) := by decide +kernel
theorem dX6_strikes_406 : decode cX6_strikes 406 = .ok (.iload 6, 2) := by decide +kernel
theorem dX6_strikes_408 : decode cX6_strikes 408 = .ok (.iconst 3, 1) := by decide +kernel
theorem dX6_strikes_409 : decode cX6_strikes 409 = .ok (.iadd, 1) := by decide +kernel
theorem dX6_strikes_410 : decode cX6_strikes 410 = .ok (.iaload, 1) := by decide +kernel
theorem dX6_strikes_411 : decode cX6_strikes 411 = .ok (.bipush 20, 2) := by decide +kernel
theorem dX6_strikes_413 : decode cX6_strikes 413 = .ok (.if_icmp .ne 7, 3) := by decide +kernel
theorem dX6_strikes_416 : decode cX6_strikes 416 = .ok (.iconst 1, 1) := by decide +kernel
theorem dX6_strikes_417 : decode cX6_strikes 417 = .ok (.goto 4, 3) := by decide +kernel
theorem dX6_strikes_420 : decode cX6_strikes 420 = .ok (.iconst 0, 1) := by decide +kernel
theorem dX6_strikes_421 : decode cX6_strikes 421 = .ok (.istore 10, 2) := by decide +kernel
theorem dX6_strikes_423 : decode cX6_strikes 423 = .ok (.aload_n 0, 1) := by decide +kernel
theorem dX6_strikes_424 : decode cX6_strikes 424 = .ok (.getfield 7, 3) := by decide +kernel
theorem dX6_strikes_427 : decode cX6_strikes 427 = .ok (.iload 5, 2) := by decide +kernel
theorem dX6_strikes_429 : decode cX6_strikes 429 = .ok (.bipush 6, 2) := by decide +kernel
theorem dX6_strikes_431 : decode cX6_strikes 431 = .ok (.iadd, 1) := by decide +kernel
theorem dX6_strikes_432 : decode cX6_strikes 432 = .ok (.iload 9, 2) := by decide +kernel
theorem dX6_strikes_434 : decode cX6_strikes 434 = .ok (.ifCond .eq 7, 3) := by decide +kernel
theorem dX6_strikes_437 : decode cX6_strikes 437 = .ok (.iconst 1, 1) := by decide +kernel
theorem dX6_strikes_438 : decode cX6_strikes 438 = .ok (.goto 13, 3) := by decide +kernel
theorem dX6_strikes_441 : decode cX6_strikes 441 = .ok (.aload_n 0, 1) := by decide +kernel
theorem dX6_strikes_442 : decode cX6_strikes 442 = .ok (.getfield 7, 3) := by decide +kernel
theorem dX6_strikes_445 : decode cX6_strikes 445 = .ok (.iload 5, 2) := by decide +kernel
theorem dX6_strikes_447 : decode cX6_strikes 447 = .ok (.bipush 6, 2) := by decide +kernel
theorem dX6_strikes_449 : decode cX6_strikes 449 = .ok (.iadd, 1) := by decide +kernel
theorem dX6_strikes_450 : decode cX6_strikes 450 = .ok (.iaload, 1) := by decide +kernel
theorem dX6_strikes_451 : decode cX6_strikes 451 = .ok (.iastore, 1) := by decide +kernel
theorem dX6_strikes_452 : decode cX6_strikes 452 = .ok (.aload_n 0, 1) := by decide +kernel
theorem dX6_strikes_453 : decode cX6_strikes 453 = .ok (.getfield 7, 3) := by decide +kernel
theorem dX6_strikes_456 : decode cX6_strikes 456 = .ok (.iload 6, 2) := by decide +kernel
theorem dX6_strikes_458 : decode cX6_strikes 458 = .ok (.bipush 6, 2) := by decide +kernel
theorem dX6_strikes_460 : decode cX6_strikes 460 = .ok (.iadd, 1) := by decide +kernel
theorem dX6_strikes_461 : decode cX6_strikes 461 = .ok (.iload 10, 2) := by decide +kernel
theorem dX6_strikes_463 : decode cX6_strikes 463 = .ok (.ifCond .eq 7, 3) := by decide +kernel
theorem dX6_strikes_466 : decode cX6_strikes 466 = .ok (.iconst 1, 1) := by decide +kernel
theorem dX6_strikes_467 : decode cX6_strikes 467 = .ok (.goto 13, 3) := by decide +kernel
theorem dX6_strikes_470 : decode cX6_strikes 470 = .ok (.aload_n 0, 1) := by decide +kernel
theorem dX6_strikes_471 : decode cX6_strikes 471 = .ok (.getfield 7, 3) := by decide +kernel
theorem dX6_strikes_474 : decode cX6_strikes 474 = .ok (.iload 6, 2) := by decide +kernel
theorem dX6_strikes_476 : decode cX6_strikes 476 = .ok (.bipush 6, 2) := by decide +kernel
theorem dX6_strikes_478 : decode cX6_strikes 478 = .ok (.iadd, 1) := by decide +kernel
theorem dX6_strikes_479 : decode cX6_strikes 479 = .ok (.iaload, 1) := by decide +kernel
theorem dX6_strikes_480 : decode cX6_strikes 480 = .ok (.iastore, 1) := by decide +kernel
theorem dX6_strikes_481 : decode cX6_strikes 481 = .ok (.iload 7, 2) := by decide +kernel
theorem dX6_strikes_483 : decode cX6_strikes 483 = .ok (.invokestatic 40, 3) := by decide +kernel
theorem dX6_strikes_486 : decode cX6_strikes 486 = .ok (.iconst 2, 1) := by decide +kernel
theorem dX6_strikes_487 : decode cX6_strikes 487 = .ok (.iload 8, 2) := by decide +kernel
theorem dX6_strikes_489 : decode cX6_strikes 489 = .ok (.invokestatic 40, 3) := by decide +kernel
theorem dX6_strikes_492 : decode cX6_strikes 492 = .ok (.imul, 1) := by decide +kernel
theorem dX6_strikes_493 : decode cX6_strikes 493 = .ok (.iadd, 1) := by decide +kernel
theorem dX6_strikes_494 : decode cX6_strikes 494 = .ok (.iconst 4, 1) := by decide +kernel
theorem dX6_strikes_495 : decode cX6_strikes 495 = .ok (.iload 9, 2) := by decide +kernel
theorem dX6_strikes_497 : decode cX6_strikes 497 = .ok (.invokestatic 40, 3) := by decide +kernel
theorem dX6_strikes_500 : decode cX6_strikes 500 = .ok (.imul, 1) := by decide +kernel
theorem dX6_strikes_501 : decode cX6_strikes 501 = .ok (.iadd, 1) := by decide +kernel
theorem dX6_strikes_502 : decode cX6_strikes 502 = .ok (.bipush 8, 2) := by decide +kernel
theorem dX6_strikes_504 : decode cX6_strikes 504 = .ok (.iload 10, 2) := by decide +kernel
theorem dX6_strikes_506 : decode cX6_strikes 506 = .ok (.invokestatic 40, 3) := by decide +kernel
theorem dX6_strikes_509 : decode cX6_strikes 509 = .ok (.imul, 1) := by decide +kernel
theorem dX6_strikes_510 : decode cX6_strikes 510 = .ok (.iadd, 1) := by decide +kernel
theorem dX6_strikes_511 : decode cX6_strikes 511 = .ok (.ireturn, 1) := by decide +kernel
theorem dX6_goesOn_0 : decode cX6_goesOn 0 = .ok (.aload_n 0, 1) := by decide +kernel
theorem dX6_goesOn_1 : decode cX6_goesOn 1 = .ok (.sipush 25173, 3) := by decide +kernel
theorem dX6_goesOn_4 : decode cX6_goesOn 4 = .ok (.aload_n 0, 1) := by decide +kernel
theorem dX6_goesOn_5 : decode cX6_goesOn 5 = .ok (.getfield 44, 3) := by decide +kernel
theorem dX6_goesOn_8 : decode cX6_goesOn 8 = .ok (.imul, 1) := by decide +kernel
theorem dX6_goesOn_9 : decode cX6_goesOn 9 = .ok (.sipush 13849, 3) := by decide +kernel
theorem dX6_goesOn_12 : decode cX6_goesOn 12 = .ok (.iadd, 1) := by decide +kernel
theorem dX6_goesOn_13 : decode cX6_goesOn 13 = .ok (.ldc 47, 2) := by decide +kernel
theorem dX6_goesOn_15 : decode cX6_goesOn 15 = .ok (.irem, 1) := by decide +kernel
theorem dX6_goesOn_16 : decode cX6_goesOn 16 = .ok (.putfield 44, 3) := by decide +kernel
theorem dX6_goesOn_19 : decode cX6_goesOn 19 = .ok (.return_, 1) := by decide +kernel
set_option maxRecDepth 20000 in
theorem ggX6_fights_X6_less : GoodIn wsX6_fights wsX6_less := goodIn_r _ [6] (by decide +kernel) (by decide +kernel)
set_option maxRecDepth 20000 in
theorem gX6_fights_X6_less : GoodIn wsX6_fights (va_wsS RX6 34 yX6_less wsX6_less) := goodIn_app (goodIn_of _ (by decide +kernel)) ggX6_fights_X6_less
set_option maxRecDepth 20000 in
theorem ggX6_fights_X6_at : GoodIn wsX6_fights wsX6_at := goodIn_r _ [9] (by decide +kernel) (by decide +kernel)
set_option maxRecDepth 20000 in
theorem gX6_fights_X6_at : GoodIn wsX6_fights (va_wsS RX6 30 yX6_at wsX6_at) := goodIn_app (goodIn_of _ (by decide +kernel)) ggX6_fights_X6_at
set_option maxRecDepth 20000 in
theorem ggX6_fights_X6_goesOn : GoodIn wsX6_fights wsX6_goesOn := goodIn_r _ [13, 2, 14, 26, 27, 28, 29, 30, 31, 32, 33, 34, 35, 36, 37, 38] (by decide +kernel) (by decide +kernel)
set_option maxRecDepth 20000 in
theorem gX6_fights_X6_goesOn : GoodIn wsX6_fights (wsV RX6 48 RX6 yX6_goesOn wsX6_goesOn) := goodIn_app (goodIn_of _ (by decide +kernel)) ggX6_fights_X6_goesOn
set_option maxRecDepth 20000 in
theorem ggX6_fights_X6_strikes : GoodIn wsX6_fights wsX6_strikes := goodIn_r _ [18, 1, 7, 8, 5, 9, 3, 4, 6, 19, 20, 21, 22, 23, 24, 25, 26, 27, 28, 29, 30, 31, 32, 33, 34, 35, 36, 37, 38] (by decide +kernel) (by decide +kernel)
set_option maxRecDepth 20000 in
theorem gX6_fights_X6_strikes : GoodIn wsX6_fights (wsV RX6 51 RX6 yX6_strikes wsX6_strikes) := goodIn_app (goodIn_of _ (by decide +kernel)) ggX6_fights_X6_strikes
theorem dX6_fights_0 : decode cX6_fights 0 = .ok (.iload_n 2, 1) := by decide +kernel
theorem dX6_fights_1 : decode cX6_fights 1 = .ok (.iload_n 3, 1) := by decide +kernel
theorem dX6_fights_2 : decode cX6_fights 2 = .ok (.invokestatic 34, 3) := by decide +kernel
theorem dX6_fights_5 : decode cX6_fights 5 = .ok (.istore 4, 2) := by decide +kernel
theorem dX6_fights_7 : decode cX6_fights 7 = .ok (.iload_n 2, 1) := by decide +kernel
theorem dX6_fights_8 : decode cX6_fights 8 = .ok (.iload_n 3, 1) := by decide +kernel
theorem dX6_fights_9 : decode cX6_fights 9 = .ok (.iadd, 1) := by decide +kernel
theorem dX6_fights_10 : decode cX6_fights 10 = .ok (.iload 4, 2) := by decide +kernel
theorem dX6_fights_12 : decode cX6_fights 12 = .ok (.isub, 1) := by decide +kernel
theorem dX6_fights_13 : decode cX6_fights 13 = .ok (.istore 5, 2) := by decide +kernel
theorem dX6_fights_15 : decode cX6_fights 15 = .ok (.iconst 0, 1) := by decide +kernel
theorem dX6_fights_16 : decode cX6_fights 16 = .ok (.istore 6, 2) := by decide +kernel
theorem dX6_fights_18 : decode cX6_fights 18 = .ok (.iload 6, 2) := by decide +kernel
theorem dX6_fights_20 : decode cX6_fights 20 = .ok (.bipush 20, 2) := by decide +kernel
theorem dX6_fights_22 : decode cX6_fights 22 = .ok (.if_icmp .ge 78, 3) := by decide +kernel
theorem dX6_fights_25 : decode cX6_fights 25 = .ok (.aload_n 0, 1) := by decide +kernel
theorem dX6_fights_26 : decode cX6_fights 26 = .ok (.getfield 7, 3) := by decide +kernel
theorem dX6_fights_29 : decode cX6_fights 29 = .ok (.iload_n 1, 1) := by decide +kernel
theorem dX6_fights_30 : decode cX6_fights 30 = .ok (.iload_n 2, 1) := by decide +kernel
theorem dX6_fights_31 : decode cX6_fights 31 = .ok (.invokestatic 30, 3) := by decide +kernel
theorem dX6_fights_34 : decode cX6_fights 34 = .ok (.bipush 6, 2) := by decide +kernel
theorem dX6_fights_36 : decode cX6_fights 36 = .ok (.iadd, 1) := by decide +kernel
theorem dX6_fights_37 : decode cX6_fights 37 = .ok (.iaload, 1) := by decide +kernel
theorem dX6_fights_38 : decode cX6_fights 38 = .ok (.ifCond .ne 62, 3) := by decide +kernel
theorem dX6_fights_41 : decode cX6_fights 41 = .ok (.aload_n 0, 1) := by decide +kernel
theorem dX6_fights_42 : decode cX6_fights 42 = .ok (.getfield 7, 3) := by decide +kernel
theorem dX6_fights_45 : decode cX6_fights 45 = .ok (.iload_n 1, 1) := by decide +kernel
theorem dX6_fights_46 : decode cX6_fights 46 = .ok (.iload_n 3, 1) := by decide +kernel
theorem dX6_fights_47 : decode cX6_fights 47 = .ok (.invokestatic 30, 3) := by decide +kernel
theorem dX6_fights_50 : decode cX6_fights 50 = .ok (.bipush 6, 2) := by decide +kernel
theorem dX6_fights_52 : decode cX6_fights 52 = .ok (.iadd, 1) := by decide +kernel
theorem dX6_fights_53 : decode cX6_fights 53 = .ok (.iaload, 1) := by decide +kernel
theorem dX6_fights_54 : decode cX6_fights 54 = .ok (.ifCond .ne 46, 3) := by decide +kernel
theorem dX6_fights_57 : decode cX6_fights 57 = .ok (.aload_n 0, 1) := by decide +kernel
theorem dX6_fights_58 : decode cX6_fights 58 = .ok (.invokevirtual 48, 3) := by decide +kernel
theorem dX6_fights_61 : decode cX6_fights 61 = .ok (.aload_n 0, 1) := by decide +kernel
theorem dX6_fights_62 : decode cX6_fights 62 = .ok (.iload_n 1, 1) := by decide +kernel
theorem dX6_fights_63 : decode cX6_fights 63 = .ok (.iload 4, 2) := by decide +kernel
theorem dX6_fights_65 : decode cX6_fights 65 = .ok (.iload 5, 2) := by decide +kernel
theorem dX6_fights_67 : decode cX6_fights 67 = .ok (.iconst 1, 1) := by decide +kernel
theorem dX6_fights_68 : decode cX6_fights 68 = .ok (.aload_n 0, 1) := by decide +kernel
theorem dX6_fights_69 : decode cX6_fights 69 = .ok (.getfield 44, 3) := by decide +kernel
theorem dX6_fights_72 : decode cX6_fights 72 = .ok (.sipush 7282, 3) := by decide +kernel
theorem dX6_fights_75 : decode cX6_fights 75 = .ok (.idiv, 1) := by decide +kernel
theorem dX6_fights_76 : decode cX6_fights 76 = .ok (.iadd, 1) := by decide +kernel
theorem dX6_fights_77 : decode cX6_fights 77 = .ok (.invokevirtual 51, 3) := by decide +kernel
theorem dX6_fights_80 : decode cX6_fights 80 = .ok (.istore 7, 2) := by decide +kernel
theorem dX6_fights_82 : decode cX6_fights 82 = .ok (.iload 5, 2) := by decide +kernel
theorem dX6_fights_84 : decode cX6_fights 84 = .ok (.istore 8, 2) := by decide +kernel
theorem dX6_fights_86 : decode cX6_fights 86 = .ok (.iload 4, 2) := by decide +kernel
theorem dX6_fights_88 : decode cX6_fights 88 = .ok (.istore 5, 2) := by decide +kernel
theorem dX6_fights_90 : decode cX6_fights 90 = .ok (.iload 8, 2) := by decide +kernel
theorem dX6_fights_92 : decode cX6_fights 92 = .ok (.istore 4, 2) := by decide +kernel
theorem dX6_fights_94 : decode cX6_fights 94 = .ok (.iinc 6 1, 3) := by decide +kernel
theorem dX6_fights_97 : decode cX6_fights 97 = .ok (.goto (-79), 3) := by decide +kernel
theorem dX6_fights_100 : decode cX6_fights 100 = .ok (.iload 6, 2) := by decide +kernel
theorem dX6_fights_102 : decode cX6_fights 102 = .ok (.ireturn, 1) := by decide +kernel
set_option maxRecDepth 20000 in
theorem ggX6_isConker_X6_in : GoodIn wsX6_isConker wsX6_in := goodIn_r _ [5] (by decide +kernel) (by decide +kernel)
set_option maxRecDepth 20000 in
theorem gX6_isConker_X6_in : GoodIn wsX6_isConker (va_wsS RX6 55 yX6_in wsX6_in) := goodIn_app (goodIn_of _ (by decide +kernel)) ggX6_isConker_X6_in
theorem dX6_isConker_0 : decode cX6_isConker 0 = .ok (.iload_n 1, 1) := by decide +kernel
theorem dX6_isConker_1 : decode cX6_isConker 1 = .ok (.iconst 0, 1) := by decide +kernel
theorem dX6_isConker_2 : decode cX6_isConker 2 = .ok (.aload_n 0, 1) := by decide +kernel
theorem dX6_isConker_3 : decode cX6_isConker 3 = .ok (.getfield 7, 3) := by decide +kernel
theorem dX6_isConker_6 : decode cX6_isConker 6 = .ok (.iconst 0, 1) := by decide +kernel
theorem dX6_isConker_7 : decode cX6_isConker 7 = .ok (.iaload, 1) := by decide +kernel
theorem dX6_isConker_8 : decode cX6_isConker 8 = .ok (.iconst 1, 1) := by decide +kernel
theorem dX6_isConker_9 : decode cX6_isConker 9 = .ok (.isub, 1) := by decide +kernel
theorem dX6_isConker_10 : decode cX6_isConker 10 = .ok (.invokestatic 55, 3) := by decide +kernel
theorem dX6_isConker_13 : decode cX6_isConker 13 = .ok (.ireturn, 1) := by decide +kernel
set_option maxRecDepth 20000 in
theorem ggX6_isPlayer_X6_in : GoodIn wsX6_isPlayer wsX6_in := goodIn_r _ [4] (by decide +kernel) (by decide +kernel)
set_option maxRecDepth 20000 in
theorem gX6_isPlayer_X6_in : GoodIn wsX6_isPlayer (va_wsS RX6 55 yX6_in wsX6_in) := goodIn_app (goodIn_of _ (by decide +kernel)) ggX6_isPlayer_X6_in
theorem dX6_isPlayer_0 : decode cX6_isPlayer 0 = .ok (.iload_n 0, 1) := by decide +kernel
theorem dX6_isPlayer_1 : decode cX6_isPlayer 1 = .ok (.iconst 0, 1) := by decide +kernel
theorem dX6_isPlayer_2 : decode cX6_isPlayer 2 = .ok (.iconst 5, 1) := by decide +kernel
theorem dX6_isPlayer_3 : decode cX6_isPlayer 3 = .ok (.invokestatic 55, 3) := by decide +kernel
theorem dX6_isPlayer_6 : decode cX6_isPlayer 6 = .ok (.ireturn, 1) := by decide +kernel
set_option maxRecDepth 20000 in
theorem ggX6_pairError_X6_isConker : GoodIn wsX6_pairError wsX6_isConker := goodIn_r _ [6, 1, 7, 8, 5, 9, 13, 14, 15, 16, 17, 18, 19, 20, 21, 22, 23, 24, 25] (by decide +kernel) (by decide +kernel)
set_option maxRecDepth 20000 in
theorem gX6_pairError_X6_isConker : GoodIn wsX6_pairError (wsV RX6 59 RX6 yX6_isConker wsX6_isConker) := goodIn_app (goodIn_of _ (by decide +kernel)) ggX6_pairError_X6_isConker
set_option maxRecDepth 20000 in
theorem ggX6_pairError_X6_at : GoodIn wsX6_pairError wsX6_at := goodIn_r _ [12] (by decide +kernel) (by decide +kernel)
set_option maxRecDepth 20000 in
theorem gX6_pairError_X6_at : GoodIn wsX6_pairError (va_wsS RX6 30 yX6_at wsX6_at) := goodIn_app (goodIn_of _ (by decide +kernel)) ggX6_pairError_X6_at
theorem dX6_pairError_0 : decode cX6_pairError 0 = .ok (.aload_n 0, 1) := by decide +kernel
theorem dX6_pairError_1 : decode cX6_pairError 1 = .ok (.iload_n 1, 1) := by decide +kernel
theorem dX6_pairError_2 : decode cX6_pairError 2 = .ok (.invokevirtual 59, 3) := by decide +kernel
theorem dX6_pairError_5 : decode cX6_pairError 5 = .ok (.ifCond .eq 11, 3) := by decide +kernel
theorem dX6_pairError_8 : decode cX6_pairError 8 = .ok (.aload_n 0, 1) := by decide +kernel
theorem dX6_pairError_9 : decode cX6_pairError 9 = .ok (.iload_n 2, 1) := by decide +kernel
theorem dX6_pairError_10 : decode cX6_pairError 10 = .ok (.invokevirtual 59, 3) := by decide +kernel
theorem dX6_pairError_13 : decode cX6_pairError 13 = .ok (.ifCond .ne 5, 3) := by decide +kernel
theorem dX6_pairError_16 : decode cX6_pairError 16 = .ok (.iconst (-1), 1) := by decide +kernel
theorem dX6_pairError_17 : decode cX6_pairError 17 = .ok (.ireturn, 1) := by decide +kernel
theorem dX6_pairError_18 : decode cX6_pairError 18 = .ok (.iload_n 3, 1) := by decide +kernel
theorem dX6_pairError_19 : decode cX6_pairError 19 = .ok (.ifCond .ne 6, 3) := by decide +kernel
theorem dX6_pairError_22 : decode cX6_pairError 22 = .ok (.bipush (-2), 2) := by decide +kernel
theorem dX6_pairError_24 : decode cX6_pairError 24 = .ok (.ireturn, 1) := by decide +kernel
theorem dX6_pairError_25 : decode cX6_pairError 25 = .ok (.aload_n 0, 1) := by decide +kernel
theorem dX6_pairError_26 : decode cX6_pairError 26 = .ok (.getfield 7, 3) := by decide +kernel
theorem dX6_pairError_29 : decode cX6_pairError 29 = .ok (.iconst 0, 1) := by decide +kernel
theorem dX6_pairError_30 : decode cX6_pairError 30 = .ok (.iload_n 1, 1) := by decide +kernel
theorem dX6_pairError_31 : decode cX6_pairError 31 = .ok (.invokestatic 30, 3) := by decide +kernel
theorem dX6_pairError_34 : decode cX6_pairError 34 = .ok (.bipush 6, 2) := by decide +kernel
theorem dX6_pairError_36 : decode cX6_pairError 36 = .ok (.iadd, 1) := by decide +kernel
theorem dX6_pairError_37 : decode cX6_pairError 37 = .ok (.iaload, 1) := by decide +kernel
theorem dX6_pairError_38 : decode cX6_pairError 38 = .ok (.ifCond .ne 23, 3) := by decide +kernel
theorem dX6_pairError_41 : decode cX6_pairError 41 = .ok (.aload_n 0, 1) := by decide +kernel
theorem dX6_pairError_42 : decode cX6_pairError 42 = .ok (.getfield 7, 3) := by decide +kernel
theorem dX6_pairError_45 : decode cX6_pairError 45 = .ok (.iconst 0, 1) := by decide +kernel
theorem dX6_pairError_46 : decode cX6_pairError 46 = .ok (.iload_n 2, 1) := by decide +kernel
theorem dX6_pairError_47 : decode cX6_pairError 47 = .ok (.invokestatic 30, 3) := by decide +kernel
theorem dX6_pairError_50 : decode cX6_pairError 50 = .ok (.bipush 6, 2) := by decide +kernel
theorem dX6_pairError_52 : decode cX6_pairError 52 = .ok (.iadd, 1) := by decide +kernel
theorem dX6_pairError_53 : decode cX6_pairError 53 = .ok (.iaload, 1) := by decide +kernel
theorem dX6_pairError_54 : decode cX6_pairError 54 = .ok (.ifCond .ne 7, 3) := by decide +kernel
theorem dX6_pairError_57 : decode cX6_pairError 57 = .ok (.iconst 1, 1) := by decide +kernel
theorem dX6_pairError_58 : decode cX6_pairError 58 = .ok (.goto 4, 3) := by decide +kernel
theorem dX6_pairError_61 : decode cX6_pairError 61 = .ok (.iconst 0, 1) := by decide +kernel
theorem dX6_pairError_62 : decode cX6_pairError 62 = .ok (.istore 4, 2) := by decide +kernel
theorem dX6_pairError_64 : decode cX6_pairError 64 = .ok (.aload_n 0, 1) := by decide +kernel
theorem dX6_pairError_65 : decode cX6_pairError 65 = .ok (.getfield 7, 3) := by decide +kernel
theorem dX6_pairError_68 : decode cX6_pairError 68 = .ok (.iconst 0, 1) := by decide +kernel
theorem dX6_pairError_69 : decode cX6_pairError 69 = .ok (.iload_n 1, 1) := by decide +kernel
theorem dX6_pairError_70 : decode cX6_pairError 70 = .ok (.invokestatic 30, 3) := by decide +kernel
theorem dX6_pairError_73 : decode cX6_pairError 73 = .ok (.iaload, 1) := by decide +kernel
theorem dX6_pairError_74 : decode cX6_pairError 74 = .ok (.aload_n 0, 1) := by decide +kernel
theorem dX6_pairError_75 : decode cX6_pairError 75 = .ok (.getfield 7, 3) := by decide +kernel
theorem dX6_pairError_78 : decode cX6_pairError 78 = .ok (.iconst 0, 1) := by decide +kernel
theorem dX6_pairError_79 : decode cX6_pairError 79 = .ok (.iload_n 2, 1) := by decide +kernel
theorem dX6_pairError_80 : decode cX6_pairError 80 = .ok (.invokestatic 30, 3) := by decide +kernel
theorem dX6_pairError_83 : decode cX6_pairError 83 = .ok (.iaload, 1) := by decide +kernel
theorem dX6_pairError_84 : decode cX6_pairError 84 = .ok (.if_icmp .eq 8, 3) := by decide +kernel
theorem dX6_pairError_87 : decode cX6_pairError 87 = .ok (.iload 4, 2) := by decide +kernel
theorem dX6_pairError_89 : decode cX6_pairError 89 = .ok (.ifCond .ne 8, 3) := by decide +kernel
theorem dX6_pairError_92 : decode cX6_pairError 92 = .ok (.bipush (-4), 2) := by decide +kernel
theorem dX6_pairError_94 : decode cX6_pairError 94 = .ok (.goto 4, 3) := by decide +kernel
theorem dX6_pairError_97 : decode cX6_pairError 97 = .ok (.iconst 0, 1) := by decide +kernel
theorem dX6_pairError_98 : decode cX6_pairError 98 = .ok (.ireturn, 1) := by decide +kernel
set_option maxRecDepth 20000 in
theorem ggX6_strikeError_X6_in : GoodIn wsX6_strikeError wsX6_in := goodIn_r _ [4] (by decide +kernel) (by decide +kernel)
set_option maxRecDepth 20000 in
theorem gX6_strikeError_X6_in : GoodIn wsX6_strikeError (va_wsS RX6 55 yX6_in wsX6_in) := goodIn_app (goodIn_of _ (by decide +kernel)) ggX6_strikeError_X6_in
set_option maxRecDepth 20000 in
theorem ggX6_strikeError_X6_pairError : GoodIn wsX6_strikeError wsX6_pairError := goodIn_r _ [8, 9, 10, 11, 12, 3, 13, 1, 2, 4, 14, 15, 16, 17, 18, 19, 20, 21, 22, 23, 24, 25, 26, 27, 28, 29] (by decide +kernel) (by decide +kernel)
set_option maxRecDepth 20000 in
theorem gX6_strikeError_X6_pairError : GoodIn wsX6_strikeError (wsV RX6 63 RX6 yX6_pairError wsX6_pairError) := goodIn_app (goodIn_of _ (by decide +kernel)) ggX6_strikeError_X6_pairError
theorem dX6_strikeError_0 : decode cX6_strikeError 0 = .ok (.aload_n 0, 1) := by decide +kernel
theorem dX6_strikeError_1 : decode cX6_strikeError 1 = .ok (.iload_n 1, 1) := by decide +kernel
theorem dX6_strikeError_2 : decode cX6_strikeError 2 = .ok (.iload_n 2, 1) := by decide +kernel
theorem dX6_strikeError_3 : decode cX6_strikeError 3 = .ok (.iload_n 3, 1) := by decide +kernel
theorem dX6_strikeError_4 : decode cX6_strikeError 4 = .ok (.iconst 1, 1) := by decide +kernel
theorem dX6_strikeError_5 : decode cX6_strikeError 5 = .ok (.bipush 9, 2) := by decide +kernel
theorem dX6_strikeError_7 : decode cX6_strikeError 7 = .ok (.invokestatic 55, 3) := by decide +kernel
theorem dX6_strikeError_10 : decode cX6_strikeError 10 = .ok (.invokevirtual 63, 3) := by decide +kernel
theorem dX6_strikeError_13 : decode cX6_strikeError 13 = .ok (.ireturn, 1) := by decide +kernel
set_option maxRecDepth 20000 in
theorem ggX6_spare_X6_at : GoodIn wsX6_spare wsX6_at := goodIn_r _ [5] (by decide +kernel) (by decide +kernel)
set_option maxRecDepth 20000 in
theorem gX6_spare_X6_at : GoodIn wsX6_spare (va_wsS RX6 30 yX6_at wsX6_at) := goodIn_app (goodIn_of _ (by decide +kernel)) ggX6_spare_X6_at
theorem dX6_spare_0 : decode cX6_spare 0 = .ok (.iconst 4, 1) := by decide +kernel
theorem dX6_spare_1 : decode cX6_spare 1 = .ok (.iconst 2, 1) := by decide +kernel
theorem dX6_spare_2 : decode cX6_spare 2 = .ok (.aload_n 0, 1) := by decide +kernel
theorem dX6_spare_3 : decode cX6_spare 3 = .ok (.getfield 7, 3) := by decide +kernel
theorem dX6_spare_6 : decode cX6_spare 6 = .ok (.iconst 0, 1) := by decide +kernel
theorem dX6_spare_7 : decode cX6_spare 7 = .ok (.iload_n 1, 1) := by decide +kernel
theorem dX6_spare_8 : decode cX6_spare 8 = .ok (.invokestatic 30, 3) := by decide +kernel
theorem dX6_spare_11 : decode cX6_spare 11 = .ok (.iaload, 1) := by decide +kernel
theorem dX6_spare_12 : decode cX6_spare 12 = .ok (.imul, 1) := by decide +kernel
