set_option maxRecDepth 20000 in
theorem ggX6_heirOf_X6_flag : GoodIn wsX6_heirOf wsX6_flag := goodIn_r _ [8] (by decide +kernel) (by decide +kernel)
set_option maxRecDepth 20000 in
theorem gX6_heirOf_X6_flag : GoodIn wsX6_heirOf (va_wsS RX6 40 yX6_flag wsX6_flag) := goodIn_app (goodIn_of _ (by decide +kernel)) ggX6_heirOf_X6_flag
theorem dX6_heirOf_0 : decode cX6_heirOf 0 = .ok (.iconst 0, 1) := by decide +kernel
theorem dX6_heirOf_1 : decode cX6_heirOf 1 = .ok (.istore_n 2, 1) := by decide +kernel
theorem dX6_heirOf_2 : decode cX6_heirOf 2 = .ok (.iconst 0, 1) := by decide +kernel
theorem dX6_heirOf_3 : decode cX6_heirOf 3 = .ok (.istore_n 3, 1) := by decide +kernel
theorem dX6_heirOf_4 : decode cX6_heirOf 4 = .ok (.iload_n 3, 1) := by decide +kernel
theorem dX6_heirOf_5 : decode cX6_heirOf 5 = .ok (.aload_n 0, 1) := by decide +kernel
theorem dX6_heirOf_6 : decode cX6_heirOf 6 = .ok (.getfield 7, 3) := by decide +kernel
theorem dX6_heirOf_9 : decode cX6_heirOf 9 = .ok (.iconst 0, 1) := by decide +kernel
theorem dX6_heirOf_10 : decode cX6_heirOf 10 = .ok (.iaload, 1) := by decide +kernel
theorem dX6_heirOf_11 : decode cX6_heirOf 11 = .ok (.if_icmp .ge 37, 3) := by decide +kernel
theorem dX6_heirOf_14 : decode cX6_heirOf 14 = .ok (.iload_n 2, 1) := by decide +kernel
theorem dX6_heirOf_15 : decode cX6_heirOf 15 = .ok (.aload_n 0, 1) := by decide +kernel
theorem dX6_heirOf_16 : decode cX6_heirOf 16 = .ok (.getfield 7, 3) := by decide +kernel
theorem dX6_heirOf_19 : decode cX6_heirOf 19 = .ok (.iconst 0, 1) := by decide +kernel
theorem dX6_heirOf_20 : decode cX6_heirOf 20 = .ok (.iload_n 3, 1) := by decide +kernel
theorem dX6_heirOf_21 : decode cX6_heirOf 21 = .ok (.invokestatic 30, 3) := by decide +kernel
theorem dX6_heirOf_24 : decode cX6_heirOf 24 = .ok (.bipush 7, 2) := by decide +kernel
theorem dX6_heirOf_26 : decode cX6_heirOf 26 = .ok (.iadd, 1) := by decide +kernel
theorem dX6_heirOf_27 : decode cX6_heirOf 27 = .ok (.iaload, 1) := by decide +kernel
theorem dX6_heirOf_28 : decode cX6_heirOf 28 = .ok (.iload_n 1, 1) := by decide +kernel
theorem dX6_heirOf_29 : decode cX6_heirOf 29 = .ok (.if_icmp .ne 7, 3) := by decide +kernel
theorem dX6_heirOf_32 : decode cX6_heirOf 32 = .ok (.iconst 1, 1) := by decide +kernel
theorem dX6_heirOf_33 : decode cX6_heirOf 33 = .ok (.goto 4, 3) := by decide +kernel
theorem dX6_heirOf_36 : decode cX6_heirOf 36 = .ok (.iconst 0, 1) := by decide +kernel
theorem dX6_heirOf_37 : decode cX6_heirOf 37 = .ok (.invokestatic 40, 3) := by decide +kernel
theorem dX6_heirOf_40 : decode cX6_heirOf 40 = .ok (.iadd, 1) := by decide +kernel
theorem dX6_heirOf_41 : decode cX6_heirOf 41 = .ok (.istore_n 2, 1) := by decide +kernel
theorem dX6_heirOf_42 : decode cX6_heirOf 42 = .ok (.iinc 3 1, 3) := by decide +kernel
theorem dX6_heirOf_45 : decode cX6_heirOf 45 = .ok (.goto (-41), 3) := by decide +kernel
theorem dX6_heirOf_48 : decode cX6_heirOf 48 = .ok (.iload_n 2, 1) := by decide +kernel
theorem dX6_heirOf_49 : decode cX6_heirOf 49 = .ok (.ireturn, 1) := by decide +kernel
set_option maxRecDepth 20000 in
theorem ggX6_conker_X6_isConker : GoodIn wsX6_conker wsX6_isConker := goodIn_r _ [6, 1, 7, 8, 5, 9, 20, 21, 22, 23, 24, 25, 26, 27, 28, 29, 30, 31, 32] (by decide +kernel) (by decide +kernel)
set_option maxRecDepth 20000 in
theorem gX6_conker_X6_isConker : GoodIn wsX6_conker (wsV RX6 59 RX6 yX6_isConker wsX6_isConker) := goodIn_app (goodIn_of _ (by decide +kernel)) ggX6_conker_X6_isConker
set_option maxRecDepth 20000 in
theorem ggX6_conker_X6_in : GoodIn wsX6_conker wsX6_in := goodIn_r _ [9] (by decide +kernel) (by decide +kernel)
set_option maxRecDepth 20000 in
theorem gX6_conker_X6_in : GoodIn wsX6_conker (va_wsS RX6 55 yX6_in wsX6_in) := goodIn_app (goodIn_of _ (by decide +kernel)) ggX6_conker_X6_in
set_option maxRecDepth 20000 in
theorem ggX6_conker_X6_at : GoodIn wsX6_conker wsX6_at := goodIn_r _ [12] (by decide +kernel) (by decide +kernel)
set_option maxRecDepth 20000 in
theorem gX6_conker_X6_at : GoodIn wsX6_conker (va_wsS RX6 30 yX6_at wsX6_at) := goodIn_app (goodIn_of _ (by decide +kernel)) ggX6_conker_X6_at
set_option maxRecDepth 20000 in
theorem ggX6_conker_X6_heirOf : GoodIn wsX6_conker wsX6_heirOf := goodIn_r _ [16, 1, 10, 11, 5, 12, 17, 18, 19, 20, 21, 22, 23, 24, 25, 26, 27, 28, 29, 30, 31, 32] (by decide +kernel) (by decide +kernel)
set_option maxRecDepth 20000 in
theorem gX6_conker_X6_heirOf : GoodIn wsX6_conker (wsV RX6 155 RX6 yX6_heirOf wsX6_heirOf) := goodIn_app (goodIn_of _ (by decide +kernel)) ggX6_conker_X6_heirOf
theorem dX6_conker_0 : decode cX6_conker 0 = .ok (.aload_n 0, 1) := by decide +kernel
theorem dX6_conker_1 : decode cX6_conker 1 = .ok (.iload_n 1, 1) := by decide +kernel
theorem dX6_conker_2 : decode cX6_conker 2 = .ok (.invokevirtual 59, 3) := by decide +kernel
theorem dX6_conker_5 : decode cX6_conker 5 = .ok (.ifCond .ne 5, 3) := by decide +kernel
theorem dX6_conker_8 : decode cX6_conker 8 = .ok (.iconst (-1), 1) := by decide +kernel
theorem dX6_conker_9 : decode cX6_conker 9 = .ok (.ireturn, 1) := by decide +kernel
theorem dX6_conker_10 : decode cX6_conker 10 = .ok (.iload_n 2, 1) := by decide +kernel
theorem dX6_conker_11 : decode cX6_conker 11 = .ok (.iconst 0, 1) := by decide +kernel
theorem dX6_conker_12 : decode cX6_conker 12 = .ok (.bipush 7, 2) := by decide +kernel
theorem dX6_conker_14 : decode cX6_conker 14 = .ok (.invokestatic 55, 3) := by decide +kernel
theorem dX6_conker_17 : decode cX6_conker 17 = .ok (.ifCond .eq 18, 3) := by decide +kernel
theorem dX6_conker_20 : decode cX6_conker 20 = .ok (.aload_n 0, 1) := by decide +kernel
theorem dX6_conker_21 : decode cX6_conker 21 = .ok (.getfield 7, 3) := by decide +kernel
theorem dX6_conker_24 : decode cX6_conker 24 = .ok (.iconst 0, 1) := by decide +kernel
theorem dX6_conker_25 : decode cX6_conker 25 = .ok (.iload_n 1, 1) := by decide +kernel
theorem dX6_conker_26 : decode cX6_conker 26 = .ok (.invokestatic 30, 3) := by decide +kernel
theorem dX6_conker_29 : decode cX6_conker 29 = .ok (.iload_n 2, 1) := by decide +kernel
theorem dX6_conker_30 : decode cX6_conker 30 = .ok (.iadd, 1) := by decide +kernel
theorem dX6_conker_31 : decode cX6_conker 31 = .ok (.iaload, 1) := by decide +kernel
theorem dX6_conker_32 : decode cX6_conker 32 = .ok (.goto 19, 3) := by decide +kernel
theorem dX6_conker_35 : decode cX6_conker 35 = .ok (.iload_n 2, 1) := by decide +kernel
theorem dX6_conker_36 : decode cX6_conker 36 = .ok (.bipush 8, 2) := by decide +kernel
theorem dX6_conker_38 : decode cX6_conker 38 = .ok (.if_icmp .ne 11, 3) := by decide +kernel
theorem dX6_conker_41 : decode cX6_conker 41 = .ok (.aload_n 0, 1) := by decide +kernel
theorem dX6_conker_42 : decode cX6_conker 42 = .ok (.iload_n 1, 1) := by decide +kernel
theorem dX6_conker_43 : decode cX6_conker 43 = .ok (.invokevirtual 155, 3) := by decide +kernel
theorem dX6_conker_46 : decode cX6_conker 46 = .ok (.goto 5, 3) := by decide +kernel
theorem dX6_conker_49 : decode cX6_conker 49 = .ok (.bipush (-2), 2) := by decide +kernel
theorem dX6_conker_51 : decode cX6_conker 51 = .ok (.ireturn, 1) := by decide +kernel
set_option maxRecDepth 20000 in
theorem ggX6_victories_X6_at : GoodIn wsX6_victories wsX6_at := goodIn_r _ [5] (by decide +kernel) (by decide +kernel)
set_option maxRecDepth 20000 in
theorem gX6_victories_X6_at : GoodIn wsX6_victories (va_wsS RX6 30 yX6_at wsX6_at) := goodIn_app (goodIn_of _ (by decide +kernel)) ggX6_victories_X6_at
theorem dX6_victories_0 : decode cX6_victories 0 = .ok (.iconst 0, 1) := by decide +kernel
theorem dX6_victories_1 : decode cX6_victories 1 = .ok (.istore_n 2, 1) := by decide +kernel
theorem dX6_victories_2 : decode cX6_victories 2 = .ok (.iconst 0, 1) := by decide +kernel
theorem dX6_victories_3 : decode cX6_victories 3 = .ok (.istore_n 3, 1) := by decide +kernel
theorem dX6_victories_4 : decode cX6_victories 4 = .ok (.iload_n 3, 1) := by decide +kernel
theorem dX6_victories_5 : decode cX6_victories 5 = .ok (.aload_n 0, 1) := by decide +kernel
theorem dX6_victories_6 : decode cX6_victories 6 = .ok (.getfield 7, 3) := by decide +kernel
theorem dX6_victories_9 : decode cX6_victories 9 = .ok (.iconst 0, 1) := by decide +kernel
theorem dX6_victories_10 : decode cX6_victories 10 = .ok (.iaload, 1) := by decide +kernel
theorem dX6_victories_11 : decode cX6_victories 11 = .ok (.if_icmp .ge 49, 3) := by decide +kernel
theorem dX6_victories_14 : decode cX6_victories 14 = .ok (.iconst 0, 1) := by decide +kernel
theorem dX6_victories_15 : decode cX6_victories 15 = .ok (.iload_n 3, 1) := by decide +kernel
theorem dX6_victories_16 : decode cX6_victories 16 = .ok (.invokestatic 30, 3) := by decide +kernel
theorem dX6_victories_19 : decode cX6_victories 19 = .ok (.istore 4, 2) := by decide +kernel
theorem dX6_victories_21 : decode cX6_victories 21 = .ok (.iload_n 2, 1) := by decide +kernel
theorem dX6_victories_22 : decode cX6_victories 22 = .ok (.iload_n 1, 1) := by decide +kernel
theorem dX6_victories_23 : decode cX6_victories 23 = .ok (.bipush (-5), 2) := by decide +kernel
theorem dX6_victories_25 : decode cX6_victories 25 = .ok (.if_icmp .eq 14, 3) := by decide +kernel
theorem dX6_victories_28 : decode cX6_victories 28 = .ok (.aload_n 0, 1) := by decide +kernel
theorem dX6_victories_29 : decode cX6_victories 29 = .ok (.getfield 7, 3) := by decide +kernel
theorem dX6_victories_32 : decode cX6_victories 32 = .ok (.iload 4, 2) := by decide +kernel
theorem dX6_victories_34 : decode cX6_victories 34 = .ok (.iaload, 1) := by decide +kernel
theorem dX6_victories_35 : decode cX6_victories 35 = .ok (.iload_n 1, 1) := by decide +kernel
theorem dX6_victories_36 : decode cX6_victories 36 = .ok (.if_icmp .ne 15, 3) := by decide +kernel
theorem dX6_victories_39 : decode cX6_victories 39 = .ok (.aload_n 0, 1) := by decide +kernel
theorem dX6_victories_40 : decode cX6_victories 40 = .ok (.getfield 7, 3) := by decide +kernel
theorem dX6_victories_43 : decode cX6_victories 43 = .ok (.iload 4, 2) := by decide +kernel
theorem dX6_victories_45 : decode cX6_victories 45 = .ok (.iconst 4, 1) := by decide +kernel
theorem dX6_victories_46 : decode cX6_victories 46 = .ok (.iadd, 1) := by decide +kernel
theorem dX6_victories_47 : decode cX6_victories 47 = .ok (.iaload, 1) := by decide +kernel
theorem dX6_victories_48 : decode cX6_victories 48 = .ok (.goto 4, 3) := by decide +kernel
theorem dX6_victories_51 : decode cX6_victories 51 = .ok (.iconst 0, 1) := by decide +kernel
theorem dX6_victories_52 : decode cX6_victories 52 = .ok (.iadd, 1) := by decide +kernel
theorem dX6_victories_53 : decode cX6_victories 53 = .ok (.istore_n 2, 1) := by decide +kernel
theorem dX6_victories_54 : decode cX6_victories 54 = .ok (.iinc 3 1, 3) := by decide +kernel
theorem dX6_victories_57 : decode cX6_victories 57 = .ok (.goto (-53), 3) := by decide +kernel
theorem dX6_victories_60 : decode cX6_victories 60 = .ok (.iload_n 2, 1) := by decide +kernel
theorem dX6_victories_61 : decode cX6_victories 61 = .ok (.ireturn, 1) := by decide +kernel
set_option maxRecDepth 20000 in
theorem ggX6_player_X6_isPlayer : GoodIn wsX6_player wsX6_isPlayer := goodIn_r _ [5, 6, 7, 4, 8] (by decide +kernel) (by decide +kernel)
set_option maxRecDepth 20000 in
theorem gX6_player_X6_isPlayer : GoodIn wsX6_player (va_wsS RX6 71 yX6_isPlayer wsX6_isPlayer) := goodIn_app (goodIn_of _ (by decide +kernel)) ggX6_player_X6_isPlayer
set_option maxRecDepth 20000 in
theorem ggX6_player_X6_conkers : GoodIn wsX6_player wsX6_conkers := goodIn_r _ [12, 1, 13, 14, 4, 15, 16, 17, 18, 27, 28, 29, 30, 31, 32, 33, 34, 35, 36, 37, 38, 39] (by decide +kernel) (by decide +kernel)
set_option maxRecDepth 20000 in
theorem gX6_player_X6_conkers : GoodIn wsX6_player (wsV RX6 152 RX6 yX6_conkers wsX6_conkers) := goodIn_app (goodIn_of _ (by decide +kernel)) ggX6_player_X6_conkers
set_option maxRecDepth 20000 in
theorem ggX6_player_X6_victories : GoodIn wsX6_player wsX6_victories := goodIn_r _ [22, 1, 13, 14, 4, 15, 27, 28, 29, 30, 31, 32, 33, 34, 35, 36, 37, 38, 39] (by decide +kernel) (by decide +kernel)
set_option maxRecDepth 20000 in
theorem gX6_player_X6_victories : GoodIn wsX6_player (wsV RX6 158 RX6 yX6_victories wsX6_victories) := goodIn_app (goodIn_of _ (by decide +kernel)) ggX6_player_X6_victories
set_option maxRecDepth 20000 in
theorem ggX6_player_X6_best : GoodIn wsX6_player wsX6_best := goodIn_r _ [26, 1, 13, 14, 4, 15, 27, 28, 29, 30, 31, 32, 33, 34, 35, 36, 37, 38, 39] (by decide +kernel) (by decide +kernel)
set_option maxRecDepth 20000 in
theorem gX6_player_X6_best : GoodIn wsX6_player (wsV RX6 100 RX6 yX6_best wsX6_best) := goodIn_app (goodIn_of _ (by decide +kernel)) ggX6_player_X6_best
theorem dX6_player_0 : decode cX6_player 0 = .ok (.iload_n 1, 1) := by decide +kernel
theorem dX6_player_1 : decode cX6_player 1 = .ok (.invokestatic 71, 3) := by decide +kernel
theorem dX6_player_4 : decode cX6_player 4 = .ok (.ifCond .ne 5, 3) := by decide +kernel
theorem dX6_player_7 : decode cX6_player 7 = .ok (.iconst (-1), 1) := by decide +kernel
theorem dX6_player_8 : decode cX6_player 8 = .ok (.ireturn, 1) := by decide +kernel
theorem dX6_player_9 : decode cX6_player 9 = .ok (.iload_n 2, 1) := by decide +kernel
theorem dX6_player_10 : decode cX6_player 10 = .ok (.tableswitch 76 0 6 #[42, 42, 55, 55, 55, 64, 70], 42) := by decide +kernel
theorem dX6_player_52 : decode cX6_player 52 = .ok (.aload_n 0, 1) := by decide +kernel
theorem dX6_player_53 : decode cX6_player 53 = .ok (.getfield 7, 3) := by decide +kernel
theorem dX6_player_56 : decode cX6_player 56 = .ok (.iconst 4, 1) := by decide +kernel
theorem dX6_player_57 : decode cX6_player 57 = .ok (.iconst 2, 1) := by decide +kernel
theorem dX6_player_58 : decode cX6_player 58 = .ok (.iload_n 1, 1) := by decide +kernel
theorem dX6_player_59 : decode cX6_player 59 = .ok (.imul, 1) := by decide +kernel
theorem dX6_player_60 : decode cX6_player 60 = .ok (.iadd, 1) := by decide +kernel
theorem dX6_player_61 : decode cX6_player 61 = .ok (.iload_n 2, 1) := by decide +kernel
theorem dX6_player_62 : decode cX6_player 62 = .ok (.iadd, 1) := by decide +kernel
theorem dX6_player_63 : decode cX6_player 63 = .ok (.iaload, 1) := by decide +kernel
theorem dX6_player_64 : decode cX6_player 64 = .ok (.ireturn, 1) := by decide +kernel
theorem dX6_player_65 : decode cX6_player 65 = .ok (.aload_n 0, 1) := by decide +kernel
theorem dX6_player_66 : decode cX6_player 66 = .ok (.iload_n 1, 1) := by decide +kernel
theorem dX6_player_67 : decode cX6_player 67 = .ok (.iload_n 2, 1) := by decide +kernel
theorem dX6_player_68 : decode cX6_player 68 = .ok (.iconst 2, 1) := by decide +kernel
theorem dX6_player_69 : decode cX6_player 69 = .ok (.isub, 1) := by decide +kernel
theorem dX6_player_70 : decode cX6_player 70 = .ok (.invokevirtual 152, 3) := by decide +kernel
theorem dX6_player_73 : decode cX6_player 73 = .ok (.ireturn, 1) := by decide +kernel
theorem dX6_player_74 : decode cX6_player 74 = .ok (.aload_n 0, 1) := by decide +kernel
theorem dX6_player_75 : decode cX6_player 75 = .ok (.iload_n 1, 1) := by decide +kernel
theorem dX6_player_76 : decode cX6_player 76 = .ok (.invokevirtual 158, 3) := by decide +kernel
theorem dX6_player_79 : decode cX6_player 79 = .ok (.ireturn, 1) := by decide +kernel
theorem dX6_player_80 : decode cX6_player 80 = .ok (.aload_n 0, 1) := by decide +kernel
theorem dX6_player_81 : decode cX6_player 81 = .ok (.iload_n 1, 1) := by decide +kernel
theorem dX6_player_82 : decode cX6_player 82 = .ok (.invokevirtual 100, 3) := by decide +kernel
theorem dX6_player_85 : decode cX6_player 85 = .ok (.ireturn, 1) := by decide +kernel
theorem dX6_player_86 : decode cX6_player 86 = .ok (.bipush (-2), 2) := by decide +kernel
theorem dX6_player_88 : decode cX6_player 88 = .ok (.ireturn, 1) := by decide +kernel
set_option maxRecDepth 20000 in
theorem ggX6_ahead_X6_at : GoodIn wsX6_ahead wsX6_at := goodIn_r _ [5] (by decide +kernel) (by decide +kernel)
set_option maxRecDepth 20000 in
theorem gX6_ahead_X6_at : GoodIn wsX6_ahead (va_wsS RX6 30 yX6_at wsX6_at) := goodIn_app (goodIn_of _ (by decide +kernel)) ggX6_ahead_X6_at
set_option maxRecDepth 20000 in
theorem ggX6_ahead_X6_flag : GoodIn wsX6_ahead wsX6_flag := goodIn_r _ [8] (by decide +kernel) (by decide +kernel)
set_option maxRecDepth 20000 in
theorem gX6_ahead_X6_flag : GoodIn wsX6_ahead (va_wsS RX6 40 yX6_flag wsX6_flag) := goodIn_app (goodIn_of _ (by decide +kernel)) ggX6_ahead_X6_flag
theorem dX6_ahead_0 : decode cX6_ahead 0 = .ok (.iconst 0, 1) := by decide +kernel
theorem dX6_ahead_1 : decode cX6_ahead 1 = .ok (.istore_n 2, 1) := by decide +kernel
theorem dX6_ahead_2 : decode cX6_ahead 2 = .ok (.aload_n 0, 1) := by decide +kernel
theorem dX6_ahead_3 : decode cX6_ahead 3 = .ok (.getfield 7, 3) := by decide +kernel
theorem dX6_ahead_6 : decode cX6_ahead 6 = .ok (.iconst 0, 1) := by decide +kernel
theorem dX6_ahead_7 : decode cX6_ahead 7 = .ok (.iload_n 1, 1) := by decide +kernel
theorem dX6_ahead_8 : decode cX6_ahead 8 = .ok (.invokestatic 30, 3) := by decide +kernel
theorem dX6_ahead_11 : decode cX6_ahead 11 = .ok (.iconst 4, 1) := by decide +kernel
theorem dX6_ahead_12 : decode cX6_ahead 12 = .ok (.iadd, 1) := by decide +kernel
theorem dX6_ahead_13 : decode cX6_ahead 13 = .ok (.iaload, 1) := by decide +kernel
theorem dX6_ahead_14 : decode cX6_ahead 14 = .ok (.istore_n 3, 1) := by decide +kernel
theorem dX6_ahead_15 : decode cX6_ahead 15 = .ok (.iconst 0, 1) := by decide +kernel
theorem dX6_ahead_16 : decode cX6_ahead 16 = .ok (.istore 4, 2) := by decide +kernel
theorem dX6_ahead_18 : decode cX6_ahead 18 = .ok (.iload 4, 2) := by decide +kernel
theorem dX6_ahead_20 : decode cX6_ahead 20 = .ok (.aload_n 0, 1) := by decide +kernel
theorem dX6_ahead_21 : decode cX6_ahead 21 = .ok (.getfield 7, 3) := by decide +kernel
theorem dX6_ahead_24 : decode cX6_ahead 24 = .ok (.iconst 0, 1) := by decide +kernel
theorem dX6_ahead_25 : decode cX6_ahead 25 = .ok (.iaload, 1) := by decide +kernel
theorem dX6_ahead_26 : decode cX6_ahead 26 = .ok (.if_icmp .ge 71, 3) := by decide +kernel
theorem dX6_ahead_29 : decode cX6_ahead 29 = .ok (.aload_n 0, 1) := by decide +kernel
theorem dX6_ahead_30 : decode cX6_ahead 30 = .ok (.getfield 7, 3) := by decide +kernel
theorem dX6_ahead_33 : decode cX6_ahead 33 = .ok (.iconst 0, 1) := by decide +kernel
theorem dX6_ahead_34 : decode cX6_ahead 34 = .ok (.iload 4, 2) := by decide +kernel
theorem dX6_ahead_36 : decode cX6_ahead 36 = .ok (.invokestatic 30, 3) := by decide +kernel
theorem dX6_ahead_39 : decode cX6_ahead 39 = .ok (.iconst 4, 1) := by decide +kernel
theorem dX6_ahead_40 : decode cX6_ahead 40 = .ok (.iadd, 1) := by decide +kernel
theorem dX6_ahead_41 : decode cX6_ahead 41 = .ok (.iaload, 1) := by decide +kernel
theorem dX6_ahead_42 : decode cX6_ahead 42 = .ok (.istore 5, 2) := by decide +kernel
theorem dX6_ahead_44 : decode cX6_ahead 44 = .ok (.iload_n 2, 1) := by decide +kernel
theorem dX6_ahead_45 : decode cX6_ahead 45 = .ok (.aload_n 0, 1) := by decide +kernel
theorem dX6_ahead_46 : decode cX6_ahead 46 = .ok (.getfield 7, 3) := by decide +kernel
theorem dX6_ahead_49 : decode cX6_ahead 49 = .ok (.iconst 0, 1) := by decide +kernel
theorem dX6_ahead_50 : decode cX6_ahead 50 = .ok (.iload 4, 2) := by decide +kernel
theorem dX6_ahead_52 : decode cX6_ahead 52 = .ok (.invokestatic 30, 3) := by decide +kernel
theorem dX6_ahead_55 : decode cX6_ahead 55 = .ok (.bipush 6, 2) := by decide +kernel
theorem dX6_ahead_57 : decode cX6_ahead 57 = .ok (.iadd, 1) := by decide +kernel
theorem dX6_ahead_58 : decode cX6_ahead 58 = .ok (.iaload, 1) := by decide +kernel
theorem dX6_ahead_59 : decode cX6_ahead 59 = .ok (.iconst 2, 1) := by decide +kernel
theorem dX6_ahead_60 : decode cX6_ahead 60 = .ok (.if_icmp .eq 25, 3) := by decide +kernel
theorem dX6_ahead_63 : decode cX6_ahead 63 = .ok (.iload 5, 2) := by decide +kernel
theorem dX6_ahead_65 : decode cX6_ahead 65 = .ok (.iload_n 3, 1) := by decide +kernel
theorem dX6_ahead_66 : decode cX6_ahead 66 = .ok (.if_icmp .gt 15, 3) := by decide +kernel
theorem dX6_ahead_69 : decode cX6_ahead 69 = .ok (.iload 5, 2) := by decide +kernel
theorem dX6_ahead_71 : decode cX6_ahead 71 = .ok (.iload_n 3, 1) := by decide +kernel
theorem dX6_ahead_72 : decode cX6_ahead 72 = .ok (.if_icmp .ne 13, 3) := by decide +kernel
theorem dX6_ahead_75 : decode cX6_ahead 75 = .ok (.iload 4, 2) := by decide +kernel
theorem dX6_ahead_77 : decode cX6_ahead 77 = .ok (.iload_n 1, 1) := by decide +kernel
theorem dX6_ahead_78 : decode cX6_ahead 78 = .ok (.if_icmp .ge 7, 3) := by decide +kernel
theorem dX6_ahead_81 : decode cX6_ahead 81 = .ok (.iconst 1, 1) := by decide +kernel
theorem dX6_ahead_82 : decode cX6_ahead 82 = .ok (.goto 4, 3) := by decide +kernel
theorem dX6_ahead_85 : decode cX6_ahead 85 = .ok (.iconst 0, 1) := by decide +kernel
theorem dX6_ahead_86 : decode cX6_ahead 86 = .ok (.invokestatic 40, 3) := by decide +kernel
theorem dX6_ahead_89 : decode cX6_ahead 89 = .ok (.iadd, 1) := by decide +kernel
theorem dX6_ahead_90 : decode cX6_ahead 90 = .ok (.istore_n 2, 1) := by decide +kernel
theorem dX6_ahead_91 : decode cX6_ahead 91 = .ok (.iinc 4 1, 3) := by decide +kernel
theorem dX6_ahead_94 : decode cX6_ahead 94 = .ok (.goto (-76), 3) := by decide +kernel
theorem dX6_ahead_97 : decode cX6_ahead 97 = .ok (.iload_n 2, 1) := by decide +kernel
theorem dX6_ahead_98 : decode cX6_ahead 98 = .ok (.ireturn, 1) := by decide +kernel
set_option maxRecDepth 20000 in
theorem ggX6_ranked_X6_at : GoodIn wsX6_ranked wsX6_at := goodIn_r _ [5] (by decide +kernel) (by decide +kernel)
set_option maxRecDepth 20000 in
theorem gX6_ranked_X6_at : GoodIn wsX6_ranked (va_wsS RX6 30 yX6_at wsX6_at) := goodIn_app (goodIn_of _ (by decide +kernel)) ggX6_ranked_X6_at
set_option maxRecDepth 20000 in
theorem ggX6_ranked_X6_ahead : GoodIn wsX6_ranked wsX6_ahead := goodIn_r _ [9, 1, 2, 3, 4, 5, 10, 11, 12, 13, 14, 15, 16, 17, 18, 19, 20, 21, 22, 23, 24, 25] (by decide +kernel) (by decide +kernel)
set_option maxRecDepth 20000 in
theorem gX6_ranked_X6_ahead : GoodIn wsX6_ranked (wsV RX6 161 RX6 yX6_ahead wsX6_ahead) := goodIn_app (goodIn_of _ (by decide +kernel)) ggX6_ranked_X6_ahead
theorem dX6_ranked_0 : decode cX6_ranked 0 = .ok (.iload_n 1, 1) := by decide +kernel
theorem dX6_ranked_1 : decode cX6_ranked 1 = .ok (.ifCond .ge 6, 3) := by decide +kernel
theorem dX6_ranked_4 : decode cX6_ranked 4 = .ok (.bipush (-2), 2) := by decide +kernel
theorem dX6_ranked_6 : decode cX6_ranked 6 = .ok (.ireturn, 1) := by decide +kernel
theorem dX6_ranked_7 : decode cX6_ranked 7 = .ok (.iconst 0, 1) := by decide +kernel
theorem dX6_ranked_8 : decode cX6_ranked 8 = .ok (.istore_n 2, 1) := by decide +kernel
theorem dX6_ranked_9 : decode cX6_ranked 9 = .ok (.iload_n 2, 1) := by decide +kernel
theorem dX6_ranked_10 : decode cX6_ranked 10 = .ok (.aload_n 0, 1) := by decide +kernel
theorem dX6_ranked_11 : decode cX6_ranked 11 = .ok (.getfield 7, 3) := by decide +kernel
theorem dX6_ranked_14 : decode cX6_ranked 14 = .ok (.iconst 0, 1) := by decide +kernel
theorem dX6_ranked_15 : decode cX6_ranked 15 = .ok (.iaload, 1) := by decide +kernel
theorem dX6_ranked_16 : decode cX6_ranked 16 = .ok (.if_icmp .ge 37, 3) := by decide +kernel
theorem dX6_ranked_19 : decode cX6_ranked 19 = .ok (.aload_n 0, 1) := by decide +kernel
theorem dX6_ranked_20 : decode cX6_ranked 20 = .ok (.getfield 7, 3) := by decide +kernel
theorem dX6_ranked_23 : decode cX6_ranked 23 = .ok (.iconst 0, 1) := by decide +kernel
theorem dX6_ranked_24 : decode cX6_ranked 24 = .ok (.iload_n 2, 1) := by decide +kernel
theorem dX6_ranked_25 : decode cX6_ranked 25 = .ok (.invokestatic 30, 3) := by decide +kernel
theorem dX6_ranked_28 : decode cX6_ranked 28 = .ok (.bipush 6, 2) := by decide +kernel
theorem dX6_ranked_30 : decode cX6_ranked 30 = .ok (.iadd, 1) := by decide +kernel
theorem dX6_ranked_31 : decode cX6_ranked 31 = .ok (.iaload, 1) := by decide +kernel
theorem dX6_ranked_32 : decode cX6_ranked 32 = .ok (.iconst 2, 1) := by decide +kernel
theorem dX6_ranked_33 : decode cX6_ranked 33 = .ok (.if_icmp .eq 14, 3) := by decide +kernel
theorem dX6_ranked_36 : decode cX6_ranked 36 = .ok (.aload_n 0, 1) := by decide +kernel
theorem dX6_ranked_37 : decode cX6_ranked 37 = .ok (.iload_n 2, 1) := by decide +kernel
theorem dX6_ranked_38 : decode cX6_ranked 38 = .ok (.invokevirtual 161, 3) := by decide +kernel
theorem dX6_ranked_41 : decode cX6_ranked 41 = .ok (.iload_n 1, 1) := by decide +kernel
theorem dX6_ranked_42 : decode cX6_ranked 42 = .ok (.if_icmp .ne 5, 3) := by decide +kernel
theorem dX6_ranked_45 : decode cX6_ranked 45 = .ok (.iload_n 2, 1) := by decide +kernel
theorem dX6_ranked_46 : decode cX6_ranked 46 = .ok (.ireturn, 1) := by decide +kernel
theorem dX6_ranked_47 : decode cX6_ranked 47 = .ok (.iinc 2 1, 3) := by decide +kernel
theorem dX6_ranked_50 : decode cX6_ranked 50 = .ok (.goto (-41), 3) := by decide +kernel
theorem dX6_ranked_53 : decode cX6_ranked 53 = .ok (.bipush (-5), 2) := by decide +kernel
theorem dX6_ranked_55 : decode cX6_ranked 55 = .ok (.ireturn, 1) := by decide +kernel
set_option maxRecDepth 20000 in
theorem ggX6_isInLine_X6_at : GoodIn wsX6_isInLine wsX6_at := goodIn_r _ [5] (by decide +kernel) (by decide +kernel)
set_option maxRecDepth 20000 in
theorem gX6_isInLine_X6_at : GoodIn wsX6_isInLine (va_wsS RX6 30 yX6_at wsX6_at) := goodIn_app (goodIn_of _ (by decide +kernel)) ggX6_isInLine_X6_at
theorem dX6_isInLine_0 : decode cX6_isInLine 0 = .ok (.iconst 0, 1) := by decide +kernel
theorem dX6_isInLine_1 : decode cX6_isInLine 1 = .ok (.istore_n 3, 1) := by decide +kernel
theorem dX6_isInLine_2 : decode cX6_isInLine 2 = .ok (.aload_n 0, 1) := by decide +kernel
theorem dX6_isInLine_3 : decode cX6_isInLine 3 = .ok (.getfield 7, 3) := by decide +kernel
theorem dX6_isInLine_6 : decode cX6_isInLine 6 = .ok (.iconst 0, 1) := by decide +kernel
theorem dX6_isInLine_7 : decode cX6_isInLine 7 = .ok (.iload_n 2, 1) := by decide +kernel
theorem dX6_isInLine_8 : decode cX6_isInLine 8 = .ok (.invokestatic 30, 3) := by decide +kernel
theorem dX6_isInLine_11 : decode cX6_isInLine 11 = .ok (.bipush 7, 2) := by decide +kernel
theorem dX6_isInLine_13 : decode cX6_isInLine 13 = .ok (.iadd, 1) := by decide +kernel
theorem dX6_isInLine_14 : decode cX6_isInLine 14 = .ok (.iaload, 1) := by decide +kernel
theorem dX6_isInLine_15 : decode cX6_isInLine 15 = .ok (.istore 4, 2) := by decide +kernel
theorem dX6_isInLine_17 : decode cX6_isInLine 17 = .ok (.iload 4, 2) := by decide +kernel
theorem dX6_isInLine_19 : decode cX6_isInLine 19 = .ok (.bipush (-5), 2) := by decide +kernel
theorem dX6_isInLine_21 : decode cX6_isInLine 21 = .ok (.if_icmp .eq 38, 3) := by decide +kernel
theorem dX6_isInLine_24 : decode cX6_isInLine 24 = .ok (.iload_n 3, 1) := by decide +kernel
theorem dX6_isInLine_25 : decode cX6_isInLine 25 = .ok (.ifCond .ne 9, 3) := by decide +kernel
theorem dX6_isInLine_28 : decode cX6_isInLine 28 = .ok (.iload 4, 2) := by decide +kernel
theorem dX6_isInLine_30 : decode cX6_isInLine 30 = .ok (.iload_n 1, 1) := by decide +kernel
theorem dX6_isInLine_31 : decode cX6_isInLine 31 = .ok (.if_icmp .ne 7, 3) := by decide +kernel
theorem dX6_isInLine_34 : decode cX6_isInLine 34 = .ok (.iconst 1, 1) := by decide +kernel
theorem dX6_isInLine_35 : decode cX6_isInLine 35 = .ok (.goto 4, 3) := by decide +kernel
theorem dX6_isInLine_38 : decode cX6_isInLine 38 = .ok (.iconst 0, 1) := by decide +kernel
theorem dX6_isInLine_39 : decode cX6_isInLine 39 = .ok (.istore_n 3, 1) := by decide +kernel
theorem dX6_isInLine_40 : decode cX6_isInLine 40 = .ok (.aload_n 0, 1) := by decide +kernel
theorem dX6_isInLine_41 : decode cX6_isInLine 41 = .ok (.getfield 7, 3) := by decide +kernel
theorem dX6_isInLine_44 : decode cX6_isInLine 44 = .ok (.iconst 0, 1) := by decide +kernel
theorem dX6_isInLine_45 : decode cX6_isInLine 45 = .ok (.iload 4, 2) := by decide +kernel
theorem dX6_isInLine_47 : decode cX6_isInLine 47 = .ok (.invokestatic 30, 3) := by decide +kernel
theorem dX6_isInLine_50 : decode cX6_isInLine 50 = .ok (.bipush 7, 2) := by decide +kernel
theorem dX6_isInLine_52 : decode cX6_isInLine 52 = .ok (.iadd, 1) := by decide +kernel
theorem dX6_isInLine_53 : decode cX6_isInLine 53 = .ok (.iaload, 1) := by decide +kernel
theorem dX6_isInLine_54 : decode cX6_isInLine 54 = .ok (.istore 4, 2) := by decide +kernel
theorem dX6_isInLine_56 : decode cX6_isInLine 56 = .ok (.goto (-39), 3) := by decide +kernel
theorem dX6_isInLine_59 : decode cX6_isInLine 59 = .ok (.iload_n 3, 1) := by decide +kernel
theorem dX6_isInLine_60 : decode cX6_isInLine 60 = .ok (.ireturn, 1) := by decide +kernel
set_option maxRecDepth 20000 in
theorem ggX6_line_X6_isConker : GoodIn wsX6_line wsX6_isConker := goodIn_r _ [6, 1, 7, 8, 5, 9, 20, 21, 22, 23, 24, 25, 26, 27, 28, 29, 30, 31, 32] (by decide +kernel) (by decide +kernel)
set_option maxRecDepth 20000 in
theorem gX6_line_X6_isConker : GoodIn wsX6_line (wsV RX6 59 RX6 yX6_isConker wsX6_isConker) := goodIn_app (goodIn_of _ (by decide +kernel)) ggX6_line_X6_isConker
set_option maxRecDepth 20000 in
theorem ggX6_line_X6_isInLine : GoodIn wsX6_line wsX6_isInLine := goodIn_r _ [13, 1, 14, 15, 5, 16, 20, 21, 22, 23, 24, 25, 26, 27, 28, 29, 30, 31, 32] (by decide +kernel) (by decide +kernel)
set_option maxRecDepth 20000 in
theorem gX6_line_X6_isInLine : GoodIn wsX6_line (wsV RX6 164 RX6 yX6_isInLine wsX6_isInLine) := goodIn_app (goodIn_of _ (by decide +kernel)) ggX6_line_X6_isInLine
set_option maxRecDepth 20000 in
theorem ggX6_line_X6_flag : GoodIn wsX6_line wsX6_flag := goodIn_r _ [19] (by decide +kernel) (by decide +kernel)
set_option maxRecDepth 20000 in
theorem gX6_line_X6_flag : GoodIn wsX6_line (va_wsS RX6 40 yX6_flag wsX6_flag) := goodIn_app (goodIn_of _ (by decide +kernel)) ggX6_line_X6_flag
theorem dX6_line_0 : decode cX6_line 0 = .ok (.aload_n 0, 1) := by decide +kernel
theorem dX6_line_1 : decode cX6_line 1 = .ok (.iload_n 1, 1) := by decide +kernel
theorem dX6_line_2 : decode cX6_line 2 = .ok (.invokevirtual 59, 3) := by decide +kernel
theorem dX6_line_5 : decode cX6_line 5 = .ok (.ifCond .ne 5, 3) := by decide +kernel
theorem dX6_line_8 : decode cX6_line 8 = .ok (.iconst (-1), 1) := by decide +kernel
theorem dX6_line_9 : decode cX6_line 9 = .ok (.ireturn, 1) := by decide +kernel
theorem dX6_line_10 : decode cX6_line 10 = .ok (.iconst 0, 1) := by decide +kernel
theorem dX6_line_11 : decode cX6_line 11 = .ok (.istore_n 2, 1) := by decide +kernel
theorem dX6_line_12 : decode cX6_line 12 = .ok (.iconst 0, 1) := by decide +kernel
theorem dX6_line_13 : decode cX6_line 13 = .ok (.istore_n 3, 1) := by decide +kernel
theorem dX6_line_14 : decode cX6_line 14 = .ok (.iload_n 3, 1) := by decide +kernel
theorem dX6_line_15 : decode cX6_line 15 = .ok (.aload_n 0, 1) := by decide +kernel
theorem dX6_line_16 : decode cX6_line 16 = .ok (.getfield 7, 3) := by decide +kernel
theorem dX6_line_19 : decode cX6_line 19 = .ok (.iconst 0, 1) := by decide +kernel
theorem dX6_line_20 : decode cX6_line 20 = .ok (.iaload, 1) := by decide +kernel
theorem dX6_line_21 : decode cX6_line 21 = .ok (.if_icmp .ge 21, 3) := by decide +kernel
theorem dX6_line_24 : decode cX6_line 24 = .ok (.iload_n 2, 1) := by decide +kernel
theorem dX6_line_25 : decode cX6_line 25 = .ok (.aload_n 0, 1) := by decide +kernel
theorem dX6_line_26 : decode cX6_line 26 = .ok (.iload_n 1, 1) := by decide +kernel
theorem dX6_line_27 : decode cX6_line 27 = .ok (.iload_n 3, 1) := by decide +kernel
theorem dX6_line_28 : decode cX6_line 28 = .ok (.invokevirtual 164, 3) := by decide +kernel
theorem dX6_line_31 : decode cX6_line 31 = .ok (.invokestatic 40, 3) := by decide +kernel
theorem dX6_line_34 : decode cX6_line 34 = .ok (.iadd, 1) := by decide +kernel
theorem dX6_line_35 : decode cX6_line 35 = .ok (.istore_n 2, 1) := by decide +kernel
theorem dX6_line_36 : decode cX6_line 36 = .ok (.iinc 3 1, 3) := by decide +kernel
theorem dX6_line_39 : decode cX6_line 39 = .ok (.goto (-25), 3) := by decide +kernel
theorem dX6_line_42 : decode cX6_line 42 = .ok (.iload_n 2, 1) := by decide +kernel
theorem dX6_line_43 : decode cX6_line 43 = .ok (.ireturn, 1) := by decide +kernel
set_option maxRecDepth 20000 in
theorem ggX6_boasts_X6_at : GoodIn wsX6_boasts wsX6_at := goodIn_r _ [5] (by decide +kernel) (by decide +kernel)
set_option maxRecDepth 20000 in
theorem gX6_boasts_X6_at : GoodIn wsX6_boasts (va_wsS RX6 30 yX6_at wsX6_at) := goodIn_app (goodIn_of _ (by decide +kernel)) ggX6_boasts_X6_at
set_option maxRecDepth 20000 in
theorem ggX6_boasts_X6_flag : GoodIn wsX6_boasts wsX6_flag := goodIn_r _ [8] (by decide +kernel) (by decide +kernel)
set_option maxRecDepth 20000 in
theorem gX6_boasts_X6_flag : GoodIn wsX6_boasts (va_wsS RX6 40 yX6_flag wsX6_flag) := goodIn_app (goodIn_of _ (by decide +kernel)) ggX6_boasts_X6_flag
theorem dX6_boasts_0 : decode cX6_boasts 0 = .ok (.iconst 0, 1) := by decide +kernel
theorem dX6_boasts_1 : decode cX6_boasts 1 = .ok (.istore_n 2, 1) := by decide +kernel
theorem dX6_boasts_2 : decode cX6_boasts 2 = .ok (.iconst 0, 1) := by decide +kernel
theorem dX6_boasts_3 : decode cX6_boasts 3 = .ok (.istore_n 3, 1) := by decide +kernel
theorem dX6_boasts_4 : decode cX6_boasts 4 = .ok (.iload_n 3, 1) := by decide +kernel
theorem dX6_boasts_5 : decode cX6_boasts 5 = .ok (.aload_n 0, 1) := by decide +kernel
theorem dX6_boasts_6 : decode cX6_boasts 6 = .ok (.getfield 7, 3) := by decide +kernel
theorem dX6_boasts_9 : decode cX6_boasts 9 = .ok (.iconst 0, 1) := by decide +kernel
theorem dX6_boasts_10 : decode cX6_boasts 10 = .ok (.iaload, 1) := by decide +kernel
theorem dX6_boasts_11 : decode cX6_boasts 11 = .ok (.if_icmp .ge 66, 3) := by decide +kernel
theorem dX6_boasts_14 : decode cX6_boasts 14 = .ok (.iconst 0, 1) := by decide +kernel
theorem dX6_boasts_15 : decode cX6_boasts 15 = .ok (.iload_n 3, 1) := by decide +kernel
theorem dX6_boasts_16 : decode cX6_boasts 16 = .ok (.invokestatic 30, 3) := by decide +kernel
theorem dX6_boasts_19 : decode cX6_boasts 19 = .ok (.istore 4, 2) := by decide +kernel
theorem dX6_boasts_21 : decode cX6_boasts 21 = .ok (.iload_n 2, 1) := by decide +kernel
theorem dX6_boasts_22 : decode cX6_boasts 22 = .ok (.aload_n 0, 1) := by decide +kernel
theorem dX6_boasts_23 : decode cX6_boasts 23 = .ok (.getfield 7, 3) := by decide +kernel
theorem dX6_boasts_26 : decode cX6_boasts 26 = .ok (.iload 4, 2) := by decide +kernel
theorem dX6_boasts_28 : decode cX6_boasts 28 = .ok (.iconst 5, 1) := by decide +kernel
theorem dX6_boasts_29 : decode cX6_boasts 29 = .ok (.iadd, 1) := by decide +kernel
theorem dX6_boasts_30 : decode cX6_boasts 30 = .ok (.iaload, 1) := by decide +kernel
theorem dX6_boasts_31 : decode cX6_boasts 31 = .ok (.bipush (-5), 2) := by decide +kernel
theorem dX6_boasts_33 : decode cX6_boasts 33 = .ok (.if_icmp .eq 32, 3) := by decide +kernel
theorem dX6_boasts_36 : decode cX6_boasts 36 = .ok (.iload_n 1, 1) := by decide +kernel
theorem dX6_boasts_37 : decode cX6_boasts 37 = .ok (.ifCond .eq 24, 3) := by decide +kernel
theorem dX6_boasts_40 : decode cX6_boasts 40 = .ok (.aload_n 0, 1) := by decide +kernel
theorem dX6_boasts_41 : decode cX6_boasts 41 = .ok (.getfield 7, 3) := by decide +kernel
theorem dX6_boasts_44 : decode cX6_boasts 44 = .ok (.iload 4, 2) := by decide +kernel
theorem dX6_boasts_46 : decode cX6_boasts 46 = .ok (.iconst 5, 1) := by decide +kernel
theorem dX6_boasts_47 : decode cX6_boasts 47 = .ok (.iadd, 1) := by decide +kernel
theorem dX6_boasts_48 : decode cX6_boasts 48 = .ok (.iaload, 1) := by decide +kernel
theorem dX6_boasts_49 : decode cX6_boasts 49 = .ok (.aload_n 0, 1) := by decide +kernel
theorem dX6_boasts_50 : decode cX6_boasts 50 = .ok (.getfield 7, 3) := by decide +kernel
theorem dX6_boasts_53 : decode cX6_boasts 53 = .ok (.iload 4, 2) := by decide +kernel
theorem dX6_boasts_55 : decode cX6_boasts 55 = .ok (.iconst 4, 1) := by decide +kernel
theorem dX6_boasts_56 : decode cX6_boasts 56 = .ok (.iadd, 1) := by decide +kernel
theorem dX6_boasts_57 : decode cX6_boasts 57 = .ok (.iaload, 1) := by decide +kernel
theorem dX6_boasts_58 : decode cX6_boasts 58 = .ok (.if_icmp .le 7, 3) := by decide +kernel
theorem dX6_boasts_61 : decode cX6_boasts 61 = .ok (.iconst 1, 1) := by decide +kernel
theorem dX6_boasts_62 : decode cX6_boasts 62 = .ok (.goto 4, 3) := by decide +kernel
theorem dX6_boasts_65 : decode cX6_boasts 65 = .ok (.iconst 0, 1) := by decide +kernel
theorem dX6_boasts_66 : decode cX6_boasts 66 = .ok (.invokestatic 40, 3) := by decide +kernel
theorem dX6_boasts_69 : decode cX6_boasts 69 = .ok (.iadd, 1) := by decide +kernel
theorem dX6_boasts_70 : decode cX6_boasts 70 = .ok (.istore_n 2, 1) := by decide +kernel
theorem dX6_boasts_71 : decode cX6_boasts 71 = .ok (.iinc 3 1, 3) := by decide +kernel
theorem dX6_boasts_74 : decode cX6_boasts 74 = .ok (.goto (-70), 3) := by decide +kernel
theorem dX6_boasts_77 : decode cX6_boasts 77 = .ok (.iload_n 2, 1) := by decide +kernel
theorem dX6_boasts_78 : decode cX6_boasts 78 = .ok (.ireturn, 1) := by decide +kernel
set_option maxRecDepth 20000 in
theorem ggX6_count_X6_conkers : GoodIn wsX6_count wsX6_conkers := goodIn_r _ [8, 1, 9, 10, 7, 11, 12, 13, 14, 23, 24, 25, 26, 27, 28, 29, 30, 31, 32, 33, 34, 35] (by decide +kernel) (by decide +kernel)
set_option maxRecDepth 20000 in
theorem gX6_count_X6_conkers : GoodIn wsX6_count (wsV RX6 152 RX6 yX6_conkers wsX6_conkers) := goodIn_app (goodIn_of _ (by decide +kernel)) ggX6_count_X6_conkers
set_option maxRecDepth 20000 in
theorem ggX6_count_X6_victories : GoodIn wsX6_count wsX6_victories := goodIn_r _ [18, 1, 9, 10, 7, 11, 23, 24, 25, 26, 27, 28, 29, 30, 31, 32, 33, 34, 35] (by decide +kernel) (by decide +kernel)
set_option maxRecDepth 20000 in
theorem gX6_count_X6_victories : GoodIn wsX6_count (wsV RX6 158 RX6 yX6_victories wsX6_victories) := goodIn_app (goodIn_of _ (by decide +kernel)) ggX6_count_X6_victories
set_option maxRecDepth 20000 in
theorem ggX6_count_X6_boasts : GoodIn wsX6_count wsX6_boasts := goodIn_r _ [22, 1, 9, 10, 7, 11, 12, 13, 14, 23, 24, 25, 26, 27, 28, 29, 30, 31, 32, 33, 34, 35] (by decide +kernel) (by decide +kernel)
set_option maxRecDepth 20000 in
theorem gX6_count_X6_boasts : GoodIn wsX6_count (wsV RX6 167 RX6 yX6_boasts wsX6_boasts) := goodIn_app (goodIn_of _ (by decide +kernel)) ggX6_count_X6_boasts
theorem dX6_count_0 : decode cX6_count 0 = .ok (.iload_n 1, 1) := by decide +kernel
theorem dX6_count_1 : decode cX6_count 1 = .ok (.tableswitch 124 0 11 #[63, 70, 70, 70, 80, 87, 87, 87, 98, 98, 114, 119], 63) := by decide +kernel
theorem dX6_count_64 : decode cX6_count 64 = .ok (.aload_n 0, 1) := by decide +kernel
theorem dX6_count_65 : decode cX6_count 65 = .ok (.getfield 7, 3) := by decide +kernel
theorem dX6_count_68 : decode cX6_count 68 = .ok (.iconst 0, 1) := by decide +kernel
theorem dX6_count_69 : decode cX6_count 69 = .ok (.iaload, 1) := by decide +kernel
theorem dX6_count_70 : decode cX6_count 70 = .ok (.ireturn, 1) := by decide +kernel
theorem dX6_count_71 : decode cX6_count 71 = .ok (.aload_n 0, 1) := by decide +kernel
theorem dX6_count_72 : decode cX6_count 72 = .ok (.bipush (-5), 2) := by decide +kernel
theorem dX6_count_74 : decode cX6_count 74 = .ok (.iload_n 1, 1) := by decide +kernel
theorem dX6_count_75 : decode cX6_count 75 = .ok (.iconst 1, 1) := by decide +kernel
theorem dX6_count_76 : decode cX6_count 76 = .ok (.isub, 1) := by decide +kernel
theorem dX6_count_77 : decode cX6_count 77 = .ok (.invokevirtual 152, 3) := by decide +kernel
theorem dX6_count_80 : decode cX6_count 80 = .ok (.ireturn, 1) := by decide +kernel
theorem dX6_count_81 : decode cX6_count 81 = .ok (.aload_n 0, 1) := by decide +kernel
theorem dX6_count_82 : decode cX6_count 82 = .ok (.bipush (-5), 2) := by decide +kernel
theorem dX6_count_84 : decode cX6_count 84 = .ok (.invokevirtual 158, 3) := by decide +kernel
theorem dX6_count_87 : decode cX6_count 87 = .ok (.ireturn, 1) := by decide +kernel
theorem dX6_count_88 : decode cX6_count 88 = .ok (.aload_n 0, 1) := by decide +kernel
theorem dX6_count_89 : decode cX6_count 89 = .ok (.getfield 7, 3) := by decide +kernel
theorem dX6_count_92 : decode cX6_count 92 = .ok (.iconst 1, 1) := by decide +kernel
theorem dX6_count_93 : decode cX6_count 93 = .ok (.iload_n 1, 1) := by decide +kernel
theorem dX6_count_94 : decode cX6_count 94 = .ok (.iadd, 1) := by decide +kernel
theorem dX6_count_95 : decode cX6_count 95 = .ok (.iconst 5, 1) := by decide +kernel
theorem dX6_count_96 : decode cX6_count 96 = .ok (.isub, 1) := by decide +kernel
theorem dX6_count_97 : decode cX6_count 97 = .ok (.iaload, 1) := by decide +kernel
theorem dX6_count_98 : decode cX6_count 98 = .ok (.ireturn, 1) := by decide +kernel
theorem dX6_count_99 : decode cX6_count 99 = .ok (.aload_n 0, 1) := by decide +kernel
theorem dX6_count_100 : decode cX6_count 100 = .ok (.iload_n 1, 1) := by decide +kernel
theorem dX6_count_101 : decode cX6_count 101 = .ok (.bipush 9, 2) := by decide +kernel
theorem dX6_count_103 : decode cX6_count 103 = .ok (.if_icmp .ne 7, 3) := by decide +kernel
theorem dX6_count_106 : decode cX6_count 106 = .ok (.iconst 1, 1) := by decide +kernel
theorem dX6_count_107 : decode cX6_count 107 = .ok (.goto 4, 3) := by decide +kernel
theorem dX6_count_110 : decode cX6_count 110 = .ok (.iconst 0, 1) := by decide +kernel
theorem dX6_count_111 : decode cX6_count 111 = .ok (.invokevirtual 167, 3) := by decide +kernel
theorem dX6_count_114 : decode cX6_count 114 = .ok (.ireturn, 1) := by decide +kernel
theorem dX6_count_115 : decode cX6_count 115 = .ok (.aload_n 0, 1) := by decide +kernel
theorem dX6_count_116 : decode cX6_count 116 = .ok (.getfield 22, 3) := by decide +kernel
theorem dX6_count_119 : decode cX6_count 119 = .ok (.ireturn, 1) := by decide +kernel
theorem dX6_count_120 : decode cX6_count 120 = .ok (.aload_n 0, 1) := by decide +kernel
theorem dX6_count_121 : decode cX6_count 121 = .ok (.getfield 107, 3) := by decide +kernel
theorem dX6_count_124 : decode cX6_count 124 = .ok (.ireturn, 1) := by decide +kernel
theorem dX6_count_125 : decode cX6_count 125 = .ok (.bipush (-2), 2) := by decide +kernel
theorem dX6_count_127 : decode cX6_count 127 = .ok (.ireturn, 1) := by decide +kernel
set_option maxRecDepth 20000 in
theorem ggX6_ifStruck_X6_strikeError : GoodIn wsX6_ifStruck wsX6_strikeError := goodIn_r _ [5, 6, 7, 4, 8, 9, 10, 11, 12, 13, 14, 15, 16, 17, 18, 19, 20, 39, 40, 41, 42, 43, 44, 45, 46, 47, 48, 49, 50, 51] (by decide +kernel) (by decide +kernel)
set_option maxRecDepth 20000 in
theorem gX6_ifStruck_X6_strikeError : GoodIn wsX6_ifStruck (wsV RX6 77 RX6 yX6_strikeError wsX6_strikeError) := goodIn_app (goodIn_of _ (by decide +kernel)) ggX6_ifStruck_X6_strikeError
set_option maxRecDepth 20000 in
theorem ggX6_ifStruck_X6_copies : GoodIn wsX6_ifStruck wsX6_copies := goodIn_r _ [24, 13, 39, 40, 41, 42, 43, 44, 45, 46, 47, 48, 49, 50, 51] (by decide +kernel) (by decide +kernel)
set_option maxRecDepth 20000 in
theorem gX6_ifStruck_X6_copies : GoodIn wsX6_ifStruck (wsV RX6 26 RX6 yX6_copies wsX6_copies) := goodIn_app (goodIn_of _ (by decide +kernel)) ggX6_ifStruck_X6_copies
set_option maxRecDepth 20000 in
theorem ggX6_ifStruck_X6_strikes : GoodIn wsX6_ifStruck wsX6_strikes := goodIn_r _ [28, 13, 18, 19, 4, 20, 29, 30, 31, 32, 33, 34, 35, 36, 37, 38, 39, 40, 41, 42, 43, 44, 45, 46, 47, 48, 49, 50, 51] (by decide +kernel) (by decide +kernel)
set_option maxRecDepth 20000 in
theorem gX6_ifStruck_X6_strikes : GoodIn wsX6_ifStruck (wsV RX6 51 RX6 yX6_strikes wsX6_strikes) := goodIn_app (goodIn_of _ (by decide +kernel)) ggX6_ifStruck_X6_strikes
theorem dX6_ifStruck_0 : decode cX6_ifStruck 0 = .ok (.aload_n 0, 1) := by decide +kernel
theorem dX6_ifStruck_1 : decode cX6_ifStruck 1 = .ok (.iload_n 1, 1) := by decide +kernel
theorem dX6_ifStruck_2 : decode cX6_ifStruck 2 = .ok (.iload_n 2, 1) := by decide +kernel
theorem dX6_ifStruck_3 : decode cX6_ifStruck 3 = .ok (.iload_n 3, 1) := by decide +kernel
theorem dX6_ifStruck_4 : decode cX6_ifStruck 4 = .ok (.invokevirtual 77, 3) := by decide +kernel
theorem dX6_ifStruck_7 : decode cX6_ifStruck 7 = .ok (.istore 4, 2) := by decide +kernel
theorem dX6_ifStruck_9 : decode cX6_ifStruck 9 = .ok (.iload 4, 2) := by decide +kernel
theorem dX6_ifStruck_11 : decode cX6_ifStruck 11 = .ok (.ifCond .eq 6, 3) := by decide +kernel
theorem dX6_ifStruck_14 : decode cX6_ifStruck 14 = .ok (.iload 4, 2) := by decide +kernel
theorem dX6_ifStruck_16 : decode cX6_ifStruck 16 = .ok (.ireturn, 1) := by decide +kernel
theorem dX6_ifStruck_17 : decode cX6_ifStruck 17 = .ok (.aload_n 0, 1) := by decide +kernel
theorem dX6_ifStruck_18 : decode cX6_ifStruck 18 = .ok (.iconst 0, 1) := by decide +kernel
theorem dX6_ifStruck_19 : decode cX6_ifStruck 19 = .ok (.bipush 7, 2) := by decide +kernel
theorem dX6_ifStruck_21 : decode cX6_ifStruck 21 = .ok (.invokevirtual 26, 3) := by decide +kernel
theorem dX6_ifStruck_24 : decode cX6_ifStruck 24 = .ok (.aload_n 0, 1) := by decide +kernel
theorem dX6_ifStruck_25 : decode cX6_ifStruck 25 = .ok (.sipush 1792, 3) := by decide +kernel
theorem dX6_ifStruck_28 : decode cX6_ifStruck 28 = .ok (.iload_n 1, 1) := by decide +kernel
theorem dX6_ifStruck_29 : decode cX6_ifStruck 29 = .ok (.iload_n 2, 1) := by decide +kernel
theorem dX6_ifStruck_30 : decode cX6_ifStruck 30 = .ok (.iload_n 3, 1) := by decide +kernel
theorem dX6_ifStruck_31 : decode cX6_ifStruck 31 = .ok (.invokevirtual 51, 3) := by decide +kernel
theorem dX6_ifStruck_34 : decode cX6_ifStruck 34 = .ok (.ireturn, 1) := by decide +kernel
set_option maxRecDepth 20000 in
theorem ggX6_leastSwing_X6_strikeError : GoodIn wsX6_leastSwing wsX6_strikeError := goodIn_r _ [5, 6, 7, 4, 8, 9, 10, 11, 12, 13, 14, 15, 16, 17, 18, 19, 20, 39, 40, 41, 42, 43, 44, 45, 46, 47, 48, 49, 50, 51] (by decide +kernel) (by decide +kernel)
set_option maxRecDepth 20000 in
theorem gX6_leastSwing_X6_strikeError : GoodIn wsX6_leastSwing (wsV RX6 77 RX6 yX6_strikeError wsX6_strikeError) := goodIn_app (goodIn_of _ (by decide +kernel)) ggX6_leastSwing_X6_strikeError
set_option maxRecDepth 20000 in
theorem ggX6_leastSwing_X6_copies : GoodIn wsX6_leastSwing wsX6_copies := goodIn_r _ [24, 13, 39, 40, 41, 42, 43, 44, 45, 46, 47, 48, 49, 50, 51] (by decide +kernel) (by decide +kernel)
set_option maxRecDepth 20000 in
theorem gX6_leastSwing_X6_copies : GoodIn wsX6_leastSwing (wsV RX6 26 RX6 yX6_copies wsX6_copies) := goodIn_app (goodIn_of _ (by decide +kernel)) ggX6_leastSwing_X6_copies
set_option maxRecDepth 20000 in
theorem ggX6_leastSwing_X6_strikes : GoodIn wsX6_leastSwing wsX6_strikes := goodIn_r _ [28, 13, 18, 19, 4, 20, 29, 30, 31, 32, 33, 34, 35, 36, 37, 38, 39, 40, 41, 42, 43, 44, 45, 46, 47, 48, 49, 50, 51] (by decide +kernel) (by decide +kernel)
set_option maxRecDepth 20000 in
theorem gX6_leastSwing_X6_strikes : GoodIn wsX6_leastSwing (wsV RX6 51 RX6 yX6_strikes wsX6_strikes) := goodIn_app (goodIn_of _ (by decide +kernel)) ggX6_leastSwing_X6_strikes
theorem dX6_leastSwing_0 : decode cX6_leastSwing 0 = .ok (.aload_n 0, 1) := by decide +kernel
theorem dX6_leastSwing_1 : decode cX6_leastSwing 1 = .ok (.iload_n 1, 1) := by decide +kernel
theorem dX6_leastSwing_2 : decode cX6_leastSwing 2 = .ok (.iload_n 2, 1) := by decide +kernel
theorem dX6_leastSwing_3 : decode cX6_leastSwing 3 = .ok (.iconst 1, 1) := by decide +kernel
theorem dX6_leastSwing_4 : decode cX6_leastSwing 4 = .ok (.invokevirtual 77, 3) := by decide +kernel
theorem dX6_leastSwing_7 : decode cX6_leastSwing 7 = .ok (.istore_n 3, 1) := by decide +kernel
theorem dX6_leastSwing_8 : decode cX6_leastSwing 8 = .ok (.iload_n 3, 1) := by decide +kernel
theorem dX6_leastSwing_9 : decode cX6_leastSwing 9 = .ok (.ifCond .eq 5, 3) := by decide +kernel
theorem dX6_leastSwing_12 : decode cX6_leastSwing 12 = .ok (.iload_n 3, 1) := by decide +kernel
theorem dX6_leastSwing_13 : decode cX6_leastSwing 13 = .ok (.ireturn, 1) := by decide +kernel
theorem dX6_leastSwing_14 : decode cX6_leastSwing 14 = .ok (.iconst 1, 1) := by decide +kernel
theorem dX6_leastSwing_15 : decode cX6_leastSwing 15 = .ok (.istore 4, 2) := by decide +kernel
theorem dX6_leastSwing_17 : decode cX6_leastSwing 17 = .ok (.iload 4, 2) := by decide +kernel
theorem dX6_leastSwing_19 : decode cX6_leastSwing 19 = .ok (.bipush 9, 2) := by decide +kernel
theorem dX6_leastSwing_21 : decode cX6_leastSwing 21 = .ok (.if_icmp .gt 36, 3) := by decide +kernel
theorem dX6_leastSwing_24 : decode cX6_leastSwing 24 = .ok (.aload_n 0, 1) := by decide +kernel
theorem dX6_leastSwing_25 : decode cX6_leastSwing 25 = .ok (.iconst 0, 1) := by decide +kernel
theorem dX6_leastSwing_26 : decode cX6_leastSwing 26 = .ok (.bipush 7, 2) := by decide +kernel
theorem dX6_leastSwing_28 : decode cX6_leastSwing 28 = .ok (.invokevirtual 26, 3) := by decide +kernel
theorem dX6_leastSwing_31 : decode cX6_leastSwing 31 = .ok (.aload_n 0, 1) := by decide +kernel
theorem dX6_leastSwing_32 : decode cX6_leastSwing 32 = .ok (.sipush 1792, 3) := by decide +kernel
theorem dX6_leastSwing_35 : decode cX6_leastSwing 35 = .ok (.iload_n 1, 1) := by decide +kernel
theorem dX6_leastSwing_36 : decode cX6_leastSwing 36 = .ok (.iload_n 2, 1) := by decide +kernel
theorem dX6_leastSwing_37 : decode cX6_leastSwing 37 = .ok (.iload 4, 2) := by decide +kernel
theorem dX6_leastSwing_39 : decode cX6_leastSwing 39 = .ok (.invokevirtual 51, 3) := by decide +kernel
theorem dX6_leastSwing_42 : decode cX6_leastSwing 42 = .ok (.iconst 4, 1) := by decide +kernel
theorem dX6_leastSwing_43 : decode cX6_leastSwing 43 = .ok (.irem, 1) := by decide +kernel
theorem dX6_leastSwing_44 : decode cX6_leastSwing 44 = .ok (.iconst 2, 1) := by decide +kernel
theorem dX6_leastSwing_45 : decode cX6_leastSwing 45 = .ok (.if_icmp .ne 6, 3) := by decide +kernel
theorem dX6_leastSwing_48 : decode cX6_leastSwing 48 = .ok (.iload 4, 2) := by decide +kernel
theorem dX6_leastSwing_50 : decode cX6_leastSwing 50 = .ok (.ireturn, 1) := by decide +kernel
theorem dX6_leastSwing_51 : decode cX6_leastSwing 51 = .ok (.iinc 4 1, 3) := by decide +kernel
theorem dX6_leastSwing_54 : decode cX6_leastSwing 54 = .ok (.goto (-37), 3) := by decide +kernel
theorem dX6_leastSwing_57 : decode cX6_leastSwing 57 = .ok (.bipush (-5), 2) := by decide +kernel
theorem dX6_leastSwing_59 : decode cX6_leastSwing 59 = .ok (.ireturn, 1) := by decide +kernel
set_option maxRecDepth 20000 in
theorem ggX6_winner_X6_boutError : GoodIn wsX6_winner wsX6_boutError := goodIn_r _ [7, 8, 9, 10, 6, 11, 12, 13, 14, 15, 2, 16, 17, 18, 19, 20, 21, 22, 50, 51, 52, 53, 54, 55, 56, 57, 58, 59, 60, 61, 62] (by decide +kernel) (by decide +kernel)
set_option maxRecDepth 20000 in
theorem gX6_winner_X6_boutError : GoodIn wsX6_winner (wsV RX6 94 RX6 yX6_boutError wsX6_boutError) := goodIn_app (goodIn_of _ (by decide +kernel)) ggX6_winner_X6_boutError
set_option maxRecDepth 20000 in
theorem ggX6_winner_X6_copies : GoodIn wsX6_winner wsX6_copies := goodIn_r _ [26, 2, 50, 51, 52, 53, 54, 55, 56, 57, 58, 59, 60, 61, 62] (by decide +kernel) (by decide +kernel)
set_option maxRecDepth 20000 in
theorem gX6_winner_X6_copies : GoodIn wsX6_winner (wsV RX6 26 RX6 yX6_copies wsX6_copies) := goodIn_app (goodIn_of _ (by decide +kernel)) ggX6_winner_X6_copies
set_option maxRecDepth 20000 in
theorem ggX6_winner_X6_fights : GoodIn wsX6_winner wsX6_fights := goodIn_r _ [30, 2, 1, 31, 32, 6, 33, 20, 21, 22, 34, 35, 36, 37, 38, 39, 40, 41, 42, 43, 44, 45, 46, 47, 48, 49, 50, 51, 52, 53, 54, 55, 56, 57, 58, 59, 60, 61, 62] (by decide +kernel) (by decide +kernel)
set_option maxRecDepth 20000 in
theorem gX6_winner_X6_fights : GoodIn wsX6_winner (wsV RX6 97 RX6 yX6_fights wsX6_fights) := goodIn_app (goodIn_of _ (by decide +kernel)) ggX6_winner_X6_fights
set_option maxRecDepth 20000 in
theorem ggX6_winner_X6_at : GoodIn wsX6_winner wsX6_at := goodIn_r _ [22] (by decide +kernel) (by decide +kernel)
set_option maxRecDepth 20000 in
theorem gX6_winner_X6_at : GoodIn wsX6_winner (va_wsS RX6 30 yX6_at wsX6_at) := goodIn_app (goodIn_of _ (by decide +kernel)) ggX6_winner_X6_at
theorem dX6_winner_0 : decode cX6_winner 0 = .ok (.aload_n 0, 1) := by decide +kernel
theorem dX6_winner_1 : decode cX6_winner 1 = .ok (.iload_n 1, 1) := by decide +kernel
theorem dX6_winner_2 : decode cX6_winner 2 = .ok (.iload_n 2, 1) := by decide +kernel
theorem dX6_winner_3 : decode cX6_winner 3 = .ok (.iload_n 3, 1) := by decide +kernel
theorem dX6_winner_4 : decode cX6_winner 4 = .ok (.invokevirtual 94, 3) := by decide +kernel
theorem dX6_winner_7 : decode cX6_winner 7 = .ok (.istore 4, 2) := by decide +kernel
theorem dX6_winner_9 : decode cX6_winner 9 = .ok (.iload 4, 2) := by decide +kernel
theorem dX6_winner_11 : decode cX6_winner 11 = .ok (.ifCond .eq 6, 3) := by decide +kernel
theorem dX6_winner_14 : decode cX6_winner 14 = .ok (.iload 4, 2) := by decide +kernel
theorem dX6_winner_16 : decode cX6_winner 16 = .ok (.ireturn, 1) := by decide +kernel
theorem dX6_winner_17 : decode cX6_winner 17 = .ok (.aload_n 0, 1) := by decide +kernel
theorem dX6_winner_18 : decode cX6_winner 18 = .ok (.iconst 0, 1) := by decide +kernel
theorem dX6_winner_19 : decode cX6_winner 19 = .ok (.bipush 7, 2) := by decide +kernel
theorem dX6_winner_21 : decode cX6_winner 21 = .ok (.invokevirtual 26, 3) := by decide +kernel
theorem dX6_winner_24 : decode cX6_winner 24 = .ok (.sipush 1792, 3) := by decide +kernel
theorem dX6_winner_27 : decode cX6_winner 27 = .ok (.istore 5, 2) := by decide +kernel
theorem dX6_winner_29 : decode cX6_winner 29 = .ok (.aload_n 0, 1) := by decide +kernel
theorem dX6_winner_30 : decode cX6_winner 30 = .ok (.iload_n 3, 1) := by decide +kernel
theorem dX6_winner_31 : decode cX6_winner 31 = .ok (.putfield 44, 3) := by decide +kernel
theorem dX6_winner_34 : decode cX6_winner 34 = .ok (.aload_n 0, 1) := by decide +kernel
theorem dX6_winner_35 : decode cX6_winner 35 = .ok (.iload 5, 2) := by decide +kernel
theorem dX6_winner_37 : decode cX6_winner 37 = .ok (.iload_n 1, 1) := by decide +kernel
theorem dX6_winner_38 : decode cX6_winner 38 = .ok (.iload_n 2, 1) := by decide +kernel
theorem dX6_winner_39 : decode cX6_winner 39 = .ok (.invokevirtual 97, 3) := by decide +kernel
theorem dX6_winner_42 : decode cX6_winner 42 = .ok (.istore 6, 2) := by decide +kernel
theorem dX6_winner_44 : decode cX6_winner 44 = .ok (.aload_n 0, 1) := by decide +kernel
theorem dX6_winner_45 : decode cX6_winner 45 = .ok (.getfield 7, 3) := by decide +kernel
theorem dX6_winner_48 : decode cX6_winner 48 = .ok (.iload 5, 2) := by decide +kernel
theorem dX6_winner_50 : decode cX6_winner 50 = .ok (.iload_n 1, 1) := by decide +kernel
theorem dX6_winner_51 : decode cX6_winner 51 = .ok (.invokestatic 30, 3) := by decide +kernel
theorem dX6_winner_54 : decode cX6_winner 54 = .ok (.bipush 7, 2) := by decide +kernel
theorem dX6_winner_56 : decode cX6_winner 56 = .ok (.iadd, 1) := by decide +kernel
theorem dX6_winner_57 : decode cX6_winner 57 = .ok (.iaload, 1) := by decide +kernel
theorem dX6_winner_58 : decode cX6_winner 58 = .ok (.istore 7, 2) := by decide +kernel
theorem dX6_winner_60 : decode cX6_winner 60 = .ok (.iload 7, 2) := by decide +kernel
theorem dX6_winner_62 : decode cX6_winner 62 = .ok (.bipush (-5), 2) := by decide +kernel
theorem dX6_winner_64 : decode cX6_winner 64 = .ok (.if_icmp .eq 8, 3) := by decide +kernel
theorem dX6_winner_67 : decode cX6_winner 67 = .ok (.iload 7, 2) := by decide +kernel
theorem dX6_winner_69 : decode cX6_winner 69 = .ok (.goto 17, 3) := by decide +kernel
theorem dX6_winner_72 : decode cX6_winner 72 = .ok (.aload_n 0, 1) := by decide +kernel
theorem dX6_winner_73 : decode cX6_winner 73 = .ok (.getfield 7, 3) := by decide +kernel
theorem dX6_winner_76 : decode cX6_winner 76 = .ok (.iload 5, 2) := by decide +kernel
theorem dX6_winner_78 : decode cX6_winner 78 = .ok (.iload_n 2, 1) := by decide +kernel
theorem dX6_winner_79 : decode cX6_winner 79 = .ok (.invokestatic 30, 3) := by decide +kernel
theorem dX6_winner_82 : decode cX6_winner 82 = .ok (.bipush 7, 2) := by decide +kernel
theorem dX6_winner_84 : decode cX6_winner 84 = .ok (.iadd, 1) := by decide +kernel
theorem dX6_winner_85 : decode cX6_winner 85 = .ok (.iaload, 1) := by decide +kernel
theorem dX6_winner_86 : decode cX6_winner 86 = .ok (.ireturn, 1) := by decide +kernel
set_option maxRecDepth 20000 in
theorem ggX6_share_X6_victories : GoodIn wsX6_share wsX6_victories := goodIn_r _ [5, 6, 7, 8, 4, 9, 16, 17, 18, 19, 20, 21, 22, 23, 24, 25, 26, 27, 28] (by decide +kernel) (by decide +kernel)
set_option maxRecDepth 20000 in
theorem gX6_share_X6_victories : GoodIn wsX6_share (wsV RX6 158 RX6 yX6_victories wsX6_victories) := goodIn_app (goodIn_of _ (by decide +kernel)) ggX6_share_X6_victories
set_option maxRecDepth 20000 in
theorem ggX6_share_X6_isPlayer : GoodIn wsX6_share wsX6_isPlayer := goodIn_r _ [12, 13, 14, 4, 15] (by decide +kernel) (by decide +kernel)
set_option maxRecDepth 20000 in
theorem gX6_share_X6_isPlayer : GoodIn wsX6_share (va_wsS RX6 71 yX6_isPlayer wsX6_isPlayer) := goodIn_app (goodIn_of _ (by decide +kernel)) ggX6_share_X6_isPlayer
theorem dX6_share_0 : decode cX6_share 0 = .ok (.aload_n 0, 1) := by decide +kernel
theorem dX6_share_1 : decode cX6_share 1 = .ok (.bipush (-5), 2) := by decide +kernel
theorem dX6_share_3 : decode cX6_share 3 = .ok (.invokevirtual 158, 3) := by decide +kernel
theorem dX6_share_6 : decode cX6_share 6 = .ok (.istore_n 2, 1) := by decide +kernel
theorem dX6_share_7 : decode cX6_share 7 = .ok (.iload_n 1, 1) := by decide +kernel
theorem dX6_share_8 : decode cX6_share 8 = .ok (.invokestatic 71, 3) := by decide +kernel
theorem dX6_share_11 : decode cX6_share 11 = .ok (.ifCond .eq 7, 3) := by decide +kernel
theorem dX6_share_14 : decode cX6_share 14 = .ok (.iload_n 2, 1) := by decide +kernel
theorem dX6_share_15 : decode cX6_share 15 = .ok (.ifCond .ne 7, 3) := by decide +kernel
theorem dX6_share_18 : decode cX6_share 18 = .ok (.fconst 0, 1) := by decide +kernel
theorem dX6_share_19 : decode cX6_share 19 = .ok (.goto 12, 3) := by decide +kernel
theorem dX6_share_22 : decode cX6_share 22 = .ok (.aload_n 0, 1) := by decide +kernel
theorem dX6_share_23 : decode cX6_share 23 = .ok (.iload_n 1, 1) := by decide +kernel
theorem dX6_share_24 : decode cX6_share 24 = .ok (.invokevirtual 158, 3) := by decide +kernel
theorem dX6_share_27 : decode cX6_share 27 = .ok (.i2f, 1) := by decide +kernel
theorem dX6_share_28 : decode cX6_share 28 = .ok (.iload_n 2, 1) := by decide +kernel
theorem dX6_share_29 : decode cX6_share 29 = .ok (.i2f, 1) := by decide +kernel
theorem dX6_share_30 : decode cX6_share 30 = .ok (.fdiv, 1) := by decide +kernel
theorem dX6_share_31 : decode cX6_share 31 = .ok (.freturn, 1) := by decide +kernel
theorem dJ9_max_7cf53_0 : decode cJ9_max_7cf53 0 = .ok (.iload_n 0, 1) := by decide +kernel
theorem dJ9_max_7cf53_1 : decode cJ9_max_7cf53 1 = .ok (.iload_n 1, 1) := by decide +kernel
theorem dJ9_max_7cf53_2 : decode cJ9_max_7cf53 2 = .ok (.if_icmp .lt 7, 3) := by decide +kernel
theorem dJ9_max_7cf53_5 : decode cJ9_max_7cf53 5 = .ok (.iload_n 0, 1) := by decide +kernel
theorem dJ9_max_7cf53_6 : decode cJ9_max_7cf53 6 = .ok (.goto 4, 3) := by decide +kernel
theorem dJ9_max_7cf53_9 : decode cJ9_max_7cf53 9 = .ok (.iload_n 1, 1) := by decide +kernel
theorem dJ9_max_7cf53_10 : decode cJ9_max_7cf53 10 = .ok (.ireturn, 1) := by decide +kernel
theorem dJ9_min_7cf53_0 : decode cJ9_min_7cf53 0 = .ok (.iload_n 0, 1) := by decide +kernel
theorem dJ9_min_7cf53_1 : decode cJ9_min_7cf53 1 = .ok (.iload_n 1, 1) := by decide +kernel
theorem dJ9_min_7cf53_2 : decode cJ9_min_7cf53 2 = .ok (.if_icmp .gt 7, 3) := by decide +kernel
theorem dJ9_min_7cf53_5 : decode cJ9_min_7cf53 5 = .ok (.iload_n 0, 1) := by decide +kernel
theorem dJ9_min_7cf53_6 : decode cJ9_min_7cf53 6 = .ok (.goto 4, 3) := by decide +kernel
theorem dJ9_min_7cf53_9 : decode cJ9_min_7cf53 9 = .ok (.iload_n 1, 1) := by decide +kernel
theorem dJ9_min_7cf53_10 : decode cJ9_min_7cf53 10 = .ok (.ireturn, 1) := by decide +kernel
set_option maxRecDepth 20000 in
theorem ggL_law_X5_init : GoodIn wsL_law wsX5_init := goodIn_r _ [8, 9, 10, 11, 12, 13, 14, 15, 16, 17, 18, 19, 20, 21, 22, 23, 24, 25, 26, 27, 28, 29, 30, 31, 32, 33, 34, 35, 36, 37, 38, 39, 40, 41, 42, 43, 44, 45, 46, 47, 48, 49, 50, 51, 52, 53, 54, 55, 56, 57, 58, 59, 60, 61, 62, 63, 64, 65, 66, 67, 68, 69, 70, 71, 72, 73, 74, 75, 76, 77, 78, 79, 80, 706, 707, 708, 709, 710, 711, 712, 713, 714, 715, 716, 717, 718, 685, 686, 687, 688, 689, 690, 691, 692, 719, 720, 721, 722, 723, 724, 725, 726, 727, 728, 729, 730] (by decide +kernel) (by decide +kernel)
set_option maxRecDepth 20000 in
theorem gL_law_X5_init : GoodIn wsL_law (wsX5_init) := ggL_law_X5_init
set_option maxRecDepth 20000 in
theorem ggL_law_X6_init : GoodIn wsL_law wsX6_init := goodIn_r _ [83, 84, 10, 11, 39, 85, 86, 87, 88, 693, 694, 695, 696, 697, 698, 699, 700, 701, 702, 703, 704, 705] (by decide +kernel) (by decide +kernel)
set_option maxRecDepth 20000 in
theorem gL_law_X6_init : GoodIn wsL_law (wsX6_init) := ggL_law_X6_init
set_option maxRecDepth 20000 in
theorem ggL_law_X5_thread : GoodIn wsL_law wsX5_thread := goodIn_r _ [92, 15, 93, 94, 21, 95, 96, 2, 97, 98, 99, 100, 101, 102, 103, 20, 104, 59, 58, 105, 106, 107, 108, 109, 110, 111, 14, 112, 40, 113, 114, 115, 116, 41, 42, 43, 44, 45, 46, 47, 48, 49, 50, 51, 52, 117, 118, 119, 120, 685, 686, 687, 688, 689, 690, 691, 692, 706, 707, 708, 709, 710, 711, 712, 713, 714, 715, 716, 717, 718, 719, 720] (by decide +kernel) (by decide +kernel)
set_option maxRecDepth 20000 in
theorem gL_law_X5_thread : GoodIn wsL_law (wsV RL 13 RX5 yX5_thread wsX5_thread) := goodIn_app (goodIn_of _ (by decide +kernel)) ggL_law_X5_thread
set_option maxRecDepth 20000 in
theorem ggL_law_X6_thread : GoodIn wsL_law wsX6_thread := goodIn_r _ [124, 85, 125, 126, 5, 127, 128, 129, 130, 131, 132, 133, 134, 135, 136, 137, 138, 139, 140, 141, 142, 693, 694, 695, 696, 697, 698, 699, 700, 701, 702, 703, 704, 705] (by decide +kernel) (by decide +kernel)
set_option maxRecDepth 20000 in
theorem gL_law_X6_thread : GoodIn wsL_law (wsV RL 17 RX6 yX6_thread wsX6_thread) := goodIn_app (goodIn_of _ (by decide +kernel)) ggL_law_X6_thread
set_option maxRecDepth 20000 in
theorem ggL_law_X5_give : GoodIn wsL_law wsX5_give := goodIn_r _ [146, 15, 93, 21, 95, 96, 2, 97, 98, 99, 100, 101, 102, 103, 20, 104, 59, 58, 105, 106, 107, 108, 109, 110, 111, 14, 112, 40, 113, 114, 115, 116, 41, 42, 43, 44, 45, 46, 47, 48, 49, 50, 51, 52, 685, 686, 687, 688, 689, 690, 691, 692, 706, 707, 708, 709, 710, 711, 712, 713, 714, 715, 716, 717, 718, 719, 720] (by decide +kernel) (by decide +kernel)
set_option maxRecDepth 20000 in
theorem gL_law_X5_give : GoodIn wsL_law (wsV RL 18 RX5 yX5_give wsX5_give) := goodIn_app (goodIn_of _ (by decide +kernel)) ggL_law_X5_give
set_option maxRecDepth 20000 in
theorem ggL_law_X6_give : GoodIn wsL_law wsX6_give := goodIn_r _ [150, 85, 125, 126, 5, 127, 128, 129, 130, 131, 132, 133, 134, 135, 136, 137, 138, 139, 693, 694, 695, 696, 697, 698, 699, 700, 701, 702, 703, 704, 705] (by decide +kernel) (by decide +kernel)
set_option maxRecDepth 20000 in
theorem gL_law_X6_give : GoodIn wsL_law (wsV RL 21 RX6 yX6_give wsX6_give) := goodIn_app (goodIn_of _ (by decide +kernel)) ggL_law_X6_give
set_option maxRecDepth 20000 in
theorem ggL_law_X5_strike : GoodIn wsL_law wsX5_strike := goodIn_r _ [154, 15, 21, 155, 156, 157, 14, 158, 99, 2, 100, 159, 160, 161, 162, 42, 163, 164, 165, 166, 50, 167, 168, 169, 170, 48, 101, 102, 103, 20, 104, 59, 58, 105, 106, 107, 108, 109, 110, 111, 112, 40, 113, 114, 115, 116, 41, 43, 44, 45, 46, 47, 49, 51, 52, 171, 172, 173, 174, 175, 176, 177, 178, 179, 180, 181, 182, 183, 184, 185, 186, 187, 188, 189, 190, 191, 192, 193, 194, 195, 196, 197, 198, 199, 200, 201, 202, 203, 204, 205, 685, 686, 687, 688, 689, 690, 691, 692, 706, 707, 708, 709, 710, 711, 712, 713, 714, 715, 716, 717, 718, 719, 720] (by decide +kernel) (by decide +kernel)
set_option maxRecDepth 20000 in
theorem gL_law_X5_strike : GoodIn wsL_law (wsV RL 22 RX5 yX5_strike wsX5_strike) := goodIn_app (goodIn_of _ (by decide +kernel)) ggL_law_X5_strike
set_option maxRecDepth 20000 in
theorem ggL_law_X6_strike : GoodIn wsL_law wsX6_strike := goodIn_r _ [209, 210, 211, 212, 5, 213, 128, 129, 130, 214, 215, 216, 217, 85, 218, 219, 220, 221, 140, 141, 142, 131, 132, 133, 134, 135, 136, 137, 138, 139, 222, 223, 224, 225, 226, 227, 228, 229, 230, 231, 232, 233, 234, 235, 693, 694, 695, 696, 697, 698, 699, 700, 701, 702, 703, 704, 705] (by decide +kernel) (by decide +kernel)
set_option maxRecDepth 20000 in
theorem gL_law_X6_strike : GoodIn wsL_law (wsV RL 26 RX6 yX6_strike wsX6_strike) := goodIn_app (goodIn_of _ (by decide +kernel)) ggL_law_X6_strike
set_option maxRecDepth 20000 in
theorem ggL_law_X5_mend : GoodIn wsL_law wsX5_mend := goodIn_r _ [239, 15, 21, 240, 241, 242, 14, 243, 40, 42, 244, 245, 246, 247, 48, 163, 164, 165, 166, 50, 99, 2, 100, 101, 102, 103, 20, 104, 59, 58, 105, 106, 107, 108, 109, 110, 111, 112, 113, 114, 115, 116, 41, 43, 44, 45, 46, 47, 49, 51, 52, 248, 249, 250, 251, 685, 686, 687, 688, 689, 690, 691, 692, 706, 707, 708, 709, 710, 711, 712, 713, 714, 715, 716, 717, 718, 719, 720] (by decide +kernel) (by decide +kernel)
set_option maxRecDepth 20000 in
theorem gL_law_X5_mend : GoodIn wsL_law (wsV RL 27 RX5 yX5_mend wsX5_mend) := goodIn_app (goodIn_of _ (by decide +kernel)) ggL_law_X5_mend
set_option maxRecDepth 20000 in
theorem ggL_law_X6_mend : GoodIn wsL_law wsX6_mend := goodIn_r _ [255, 256, 257, 258, 5, 259, 85, 218, 219, 220, 221, 128, 129, 130, 140, 141, 142, 260, 261, 262, 263, 131, 132, 133, 134, 135, 136, 137, 138, 139, 264, 265, 266, 267, 693, 694, 695, 696, 697, 698, 699, 700, 701, 702, 703, 704, 705] (by decide +kernel) (by decide +kernel)
set_option maxRecDepth 20000 in
theorem gL_law_X6_mend : GoodIn wsL_law (wsV RL 31 RX6 yX6_mend wsX6_mend) := goodIn_app (goodIn_of _ (by decide +kernel)) ggL_law_X6_mend
set_option maxRecDepth 20000 in
theorem ggL_law_X5_stamp : GoodIn wsL_law wsX5_stamp := goodIn_r _ [271, 15, 21, 272, 245, 246, 14, 247, 48, 163, 164, 165, 166, 50, 99, 2, 100, 101, 102, 103, 20, 104, 59, 58, 105, 106, 107, 108, 109, 110, 111, 112, 40, 113, 114, 115, 116, 41, 42, 43, 44, 45, 46, 47, 49, 51, 52, 273, 187, 188, 189, 190, 191, 192, 193, 685, 686, 687, 688, 689, 690, 691, 692, 706, 707, 708, 709, 710, 711, 712, 713, 714, 715, 716, 717, 718, 719, 720] (by decide +kernel) (by decide +kernel)
set_option maxRecDepth 20000 in
theorem gL_law_X5_stamp : GoodIn wsL_law (wsV RL 32 RX5 yX5_stamp wsX5_stamp) := goodIn_app (goodIn_of _ (by decide +kernel)) ggL_law_X5_stamp
set_option maxRecDepth 20000 in
theorem ggL_law_X6_stamp : GoodIn wsL_law wsX6_stamp := goodIn_r _ [277, 278, 279, 280, 5, 281, 85, 218, 219, 220, 221, 128, 129, 130, 140, 141, 142, 131, 132, 133, 134, 135, 136, 137, 138, 139, 282, 283, 284, 285, 229, 230, 231, 232, 693, 694, 695, 696, 697, 698, 699, 700, 701, 702, 703, 704, 705] (by decide +kernel) (by decide +kernel)
set_option maxRecDepth 20000 in
theorem gL_law_X6_stamp : GoodIn wsL_law (wsV RL 35 RX6 yX6_stamp wsX6_stamp) := goodIn_app (goodIn_of _ (by decide +kernel)) ggL_law_X6_stamp
set_option maxRecDepth 20000 in
theorem ggL_law_X5_boast : GoodIn wsL_law wsX5_boast := goodIn_r _ [289, 15, 290, 21, 291, 292, 164, 165, 14, 166, 50, 99, 2, 100, 98, 101, 102, 103, 20, 104, 59, 58, 105, 106, 107, 108, 109, 110, 111, 112, 40, 113, 114, 115, 116, 41, 42, 43, 44, 45, 46, 47, 48, 49, 51, 52, 685, 686, 687, 688, 689, 690, 691, 692, 706, 707, 708, 709, 710, 711, 712, 713, 714, 715, 716, 717, 718, 719, 720] (by decide +kernel) (by decide +kernel)
set_option maxRecDepth 20000 in
theorem gL_law_X5_boast : GoodIn wsL_law (wsV RL 36 RX5 yX5_boast wsX5_boast) := goodIn_app (goodIn_of _ (by decide +kernel)) ggL_law_X5_boast
set_option maxRecDepth 20000 in
theorem ggL_law_X6_boast : GoodIn wsL_law wsX6_boast := goodIn_r _ [296, 85, 218, 219, 220, 5, 221, 128, 129, 130, 140, 141, 142, 131, 132, 133, 134, 135, 136, 137, 138, 139, 693, 694, 695, 696, 697, 698, 699, 700, 701, 702, 703, 704, 705] (by decide +kernel) (by decide +kernel)
set_option maxRecDepth 20000 in
theorem gL_law_X6_boast : GoodIn wsL_law (wsV RL 39 RX6 yX6_boast wsX6_boast) := goodIn_app (goodIn_of _ (by decide +kernel)) ggL_law_X6_boast
set_option maxRecDepth 20000 in
theorem ggL_law_X5_doubt : GoodIn wsL_law wsX5_doubt := goodIn_r _ [300, 15, 301, 291, 21, 95, 96, 2, 97, 98, 99, 100, 292, 164, 165, 14, 166, 50, 101, 102, 103, 20, 104, 59, 58, 105, 106, 107, 108, 109, 110, 111, 112, 40, 113, 114, 115, 116, 41, 42, 43, 44, 45, 46, 47, 48, 49, 51, 52, 302, 303, 304, 305, 685, 686, 687, 688, 689, 690, 691, 692, 706, 707, 708, 709, 710, 711, 712, 713, 714, 715, 716, 717, 718, 719, 720] (by decide +kernel) (by decide +kernel)
