theorem dX5_count_166 : decode cX5_count 166 = .ok (.ireturn, 1) := by decide +kernel
theorem dX5_count_167 : decode cX5_count 167 = .ok (.bipush (-2), 2) := by decide +kernel
theorem dX5_count_169 : decode cX5_count 169 = .ok (.ireturn, 1) := by decide +kernel
set_option maxRecDepth 20000 in
theorem ggX5_ifStruck_X4_strikeError : GoodIn wsX5_ifStruck wsX4_strikeError := goodIn_r _ [6, 7, 8, 9, 10, 11, 12, 5, 13, 14, 15, 16, 17, 18, 19, 20, 21, 22, 23, 24, 91, 92, 93, 94, 95, 96, 97, 98, 99, 100, 101, 102, 103] (by decide +kernel) (by decide +kernel)
set_option maxRecDepth 20000 in
theorem gX5_ifStruck_X4_strikeError : GoodIn wsX5_ifStruck (wsV RX5 78 RX4 yX4_strikeError wsX4_strikeError) := goodIn_app (goodIn_of _ (by decide +kernel)) ggX5_ifStruck_X4_strikeError
set_option maxRecDepth 20000 in
theorem ggX5_ifStruck_X5_tryHit : GoodIn wsX5_ifStruck wsX5_tryHit := goodIn_r _ [28, 29, 1, 30, 31, 32, 5, 33, 34, 35, 36, 37, 38, 39, 14, 40, 41, 42, 43, 44, 24, 45, 19, 46, 47, 48, 49, 50, 51, 52, 53, 54, 55, 56, 57, 58, 59, 60, 61, 62, 63, 64, 65, 66, 67, 68, 69, 70, 71, 72, 73, 74, 75, 76, 77, 78, 79, 80, 81, 82, 83, 84, 85, 86, 87, 88, 89, 90, 91, 92, 93, 94, 95, 96, 97, 98, 99, 100, 101, 102, 103] (by decide +kernel) (by decide +kernel)
set_option maxRecDepth 20000 in
theorem gX5_ifStruck_X5_tryHit : GoodIn wsX5_ifStruck (wsV RX5 221 RX5 yX5_tryHit wsX5_tryHit) := goodIn_app (goodIn_of _ (by decide +kernel)) ggX5_ifStruck_X5_tryHit
theorem dX5_ifStruck_0 : decode cX5_ifStruck 0 = .ok (.aload_n 0, 1) := by decide +kernel
theorem dX5_ifStruck_1 : decode cX5_ifStruck 1 = .ok (.getfield 10, 3) := by decide +kernel
theorem dX5_ifStruck_4 : decode cX5_ifStruck 4 = .ok (.iload_n 1, 1) := by decide +kernel
theorem dX5_ifStruck_5 : decode cX5_ifStruck 5 = .ok (.iload_n 2, 1) := by decide +kernel
theorem dX5_ifStruck_6 : decode cX5_ifStruck 6 = .ok (.iload_n 3, 1) := by decide +kernel
theorem dX5_ifStruck_7 : decode cX5_ifStruck 7 = .ok (.invokevirtual 78, 3) := by decide +kernel
theorem dX5_ifStruck_10 : decode cX5_ifStruck 10 = .ok (.istore 4, 2) := by decide +kernel
theorem dX5_ifStruck_12 : decode cX5_ifStruck 12 = .ok (.iload 4, 2) := by decide +kernel
theorem dX5_ifStruck_14 : decode cX5_ifStruck 14 = .ok (.ifCond .eq 6, 3) := by decide +kernel
theorem dX5_ifStruck_17 : decode cX5_ifStruck 17 = .ok (.iload 4, 2) := by decide +kernel
theorem dX5_ifStruck_19 : decode cX5_ifStruck 19 = .ok (.ireturn, 1) := by decide +kernel
theorem dX5_ifStruck_20 : decode cX5_ifStruck 20 = .ok (.aload_n 0, 1) := by decide +kernel
theorem dX5_ifStruck_21 : decode cX5_ifStruck 21 = .ok (.iload_n 1, 1) := by decide +kernel
theorem dX5_ifStruck_22 : decode cX5_ifStruck 22 = .ok (.iload_n 2, 1) := by decide +kernel
theorem dX5_ifStruck_23 : decode cX5_ifStruck 23 = .ok (.iload_n 3, 1) := by decide +kernel
theorem dX5_ifStruck_24 : decode cX5_ifStruck 24 = .ok (.invokevirtual 221, 3) := by decide +kernel
theorem dX5_ifStruck_27 : decode cX5_ifStruck 27 = .ok (.ireturn, 1) := by decide +kernel
set_option maxRecDepth 20000 in
theorem ggX5_leastSwing_X4_strikeError : GoodIn wsX5_leastSwing wsX4_strikeError := goodIn_r _ [6, 7, 8, 9, 10, 11, 12, 5, 13, 14, 15, 16, 17, 18, 19, 20, 21, 22, 23, 24, 91, 92, 93, 94, 95, 96, 97, 98, 99, 100, 101, 102, 103] (by decide +kernel) (by decide +kernel)
set_option maxRecDepth 20000 in
theorem gX5_leastSwing_X4_strikeError : GoodIn wsX5_leastSwing (wsV RX5 78 RX4 yX4_strikeError wsX4_strikeError) := goodIn_app (goodIn_of _ (by decide +kernel)) ggX5_leastSwing_X4_strikeError
set_option maxRecDepth 20000 in
theorem ggX5_leastSwing_X5_tryHit : GoodIn wsX5_leastSwing wsX5_tryHit := goodIn_r _ [28, 29, 1, 30, 31, 32, 5, 33, 34, 35, 36, 37, 38, 39, 14, 40, 41, 42, 43, 44, 24, 45, 19, 46, 47, 48, 49, 50, 51, 52, 53, 54, 55, 56, 57, 58, 59, 60, 61, 62, 63, 64, 65, 66, 67, 68, 69, 70, 71, 72, 73, 74, 75, 76, 77, 78, 79, 80, 81, 82, 83, 84, 85, 86, 87, 88, 89, 90, 91, 92, 93, 94, 95, 96, 97, 98, 99, 100, 101, 102, 103] (by decide +kernel) (by decide +kernel)
set_option maxRecDepth 20000 in
theorem gX5_leastSwing_X5_tryHit : GoodIn wsX5_leastSwing (wsV RX5 221 RX5 yX5_tryHit wsX5_tryHit) := goodIn_app (goodIn_of _ (by decide +kernel)) ggX5_leastSwing_X5_tryHit
theorem dX5_leastSwing_0 : decode cX5_leastSwing 0 = .ok (.aload_n 0, 1) := by decide +kernel
theorem dX5_leastSwing_1 : decode cX5_leastSwing 1 = .ok (.getfield 10, 3) := by decide +kernel
theorem dX5_leastSwing_4 : decode cX5_leastSwing 4 = .ok (.iload_n 1, 1) := by decide +kernel
theorem dX5_leastSwing_5 : decode cX5_leastSwing 5 = .ok (.iload_n 2, 1) := by decide +kernel
theorem dX5_leastSwing_6 : decode cX5_leastSwing 6 = .ok (.iconst 1, 1) := by decide +kernel
theorem dX5_leastSwing_7 : decode cX5_leastSwing 7 = .ok (.invokevirtual 78, 3) := by decide +kernel
theorem dX5_leastSwing_10 : decode cX5_leastSwing 10 = .ok (.istore_n 3, 1) := by decide +kernel
theorem dX5_leastSwing_11 : decode cX5_leastSwing 11 = .ok (.iload_n 3, 1) := by decide +kernel
theorem dX5_leastSwing_12 : decode cX5_leastSwing 12 = .ok (.ifCond .eq 5, 3) := by decide +kernel
theorem dX5_leastSwing_15 : decode cX5_leastSwing 15 = .ok (.iload_n 3, 1) := by decide +kernel
theorem dX5_leastSwing_16 : decode cX5_leastSwing 16 = .ok (.ireturn, 1) := by decide +kernel
theorem dX5_leastSwing_17 : decode cX5_leastSwing 17 = .ok (.iconst 1, 1) := by decide +kernel
theorem dX5_leastSwing_18 : decode cX5_leastSwing 18 = .ok (.istore 4, 2) := by decide +kernel
theorem dX5_leastSwing_20 : decode cX5_leastSwing 20 = .ok (.iload 4, 2) := by decide +kernel
theorem dX5_leastSwing_22 : decode cX5_leastSwing 22 = .ok (.bipush 9, 2) := by decide +kernel
theorem dX5_leastSwing_24 : decode cX5_leastSwing 24 = .ok (.if_icmp .gt 30, 3) := by decide +kernel
theorem dX5_leastSwing_27 : decode cX5_leastSwing 27 = .ok (.aload_n 0, 1) := by decide +kernel
theorem dX5_leastSwing_28 : decode cX5_leastSwing 28 = .ok (.iload_n 1, 1) := by decide +kernel
theorem dX5_leastSwing_29 : decode cX5_leastSwing 29 = .ok (.iload_n 2, 1) := by decide +kernel
theorem dX5_leastSwing_30 : decode cX5_leastSwing 30 = .ok (.iload 4, 2) := by decide +kernel
theorem dX5_leastSwing_32 : decode cX5_leastSwing 32 = .ok (.invokevirtual 221, 3) := by decide +kernel
theorem dX5_leastSwing_35 : decode cX5_leastSwing 35 = .ok (.iconst 3, 1) := by decide +kernel
theorem dX5_leastSwing_36 : decode cX5_leastSwing 36 = .ok (.iand, 1) := by decide +kernel
theorem dX5_leastSwing_37 : decode cX5_leastSwing 37 = .ok (.istore 5, 2) := by decide +kernel
theorem dX5_leastSwing_39 : decode cX5_leastSwing 39 = .ok (.iload 5, 2) := by decide +kernel
theorem dX5_leastSwing_41 : decode cX5_leastSwing 41 = .ok (.iconst 2, 1) := by decide +kernel
theorem dX5_leastSwing_42 : decode cX5_leastSwing 42 = .ok (.if_icmp .ne 6, 3) := by decide +kernel
theorem dX5_leastSwing_45 : decode cX5_leastSwing 45 = .ok (.iload 4, 2) := by decide +kernel
theorem dX5_leastSwing_47 : decode cX5_leastSwing 47 = .ok (.ireturn, 1) := by decide +kernel
theorem dX5_leastSwing_48 : decode cX5_leastSwing 48 = .ok (.iinc 4 1, 3) := by decide +kernel
theorem dX5_leastSwing_51 : decode cX5_leastSwing 51 = .ok (.goto (-31), 3) := by decide +kernel
theorem dX5_leastSwing_54 : decode cX5_leastSwing 54 = .ok (.bipush (-5), 2) := by decide +kernel
theorem dX5_leastSwing_56 : decode cX5_leastSwing 56 = .ok (.ireturn, 1) := by decide +kernel
set_option maxRecDepth 20000 in
theorem ggX5_winner_X4_boutError : GoodIn wsX5_winner wsX4_boutError := goodIn_r _ [9, 10, 11, 12, 13, 14, 15, 16, 8, 17, 18, 19, 20, 21, 22, 23, 24, 25, 26, 27, 28, 112, 113, 114, 115, 116, 117, 118, 119, 120, 121, 122, 123, 124] (by decide +kernel) (by decide +kernel)
set_option maxRecDepth 20000 in
theorem gX5_winner_X4_boutError : GoodIn wsX5_winner (wsV RX5 113 RX4 yX4_boutError wsX4_boutError) := goodIn_app (goodIn_of _ (by decide +kernel)) ggX5_winner_X4_boutError
set_option maxRecDepth 20000 in
theorem ggX5_winner_X4_copyFrom : GoodIn wsX5_winner wsX4_copyFrom := goodIn_r _ [32, 33, 34, 35, 36, 37, 38, 18, 39, 40, 41, 42, 43, 28, 44, 23, 45, 46, 112, 113, 114, 115, 116, 117, 118, 119, 120, 121, 122, 123, 124] (by decide +kernel) (by decide +kernel)
set_option maxRecDepth 20000 in
theorem gX5_winner_X4_copyFrom : GoodIn wsX5_winner (wsV RX5 164 RX4 yX4_copyFrom wsX4_copyFrom) := goodIn_app (goodIn_of _ (by decide +kernel)) ggX5_winner_X4_copyFrom
set_option maxRecDepth 20000 in
theorem ggX5_winner_X0_begin : GoodIn wsX5_winner wsX0_begin := goodIn_r _ [51, 52, 125] (by decide +kernel) (by decide +kernel)
set_option maxRecDepth 20000 in
theorem gX5_winner_X0_begin : GoodIn wsX5_winner (wsV RX5 116 RX0 yX0_begin wsX0_begin) := goodIn_app (goodIn_of _ (by decide +kernel)) ggX5_winner_X0_begin
set_option maxRecDepth 20000 in
theorem ggX5_winner_X4_fight : GoodIn wsX5_winner wsX4_fight := goodIn_r _ [56, 57, 58, 59, 60, 61, 62, 63, 24, 25, 26, 8, 27, 28, 64, 65, 66, 50, 67, 68, 69, 70, 71, 52, 72, 73, 74, 75, 76, 39, 46, 40, 41, 77, 78, 79, 80, 81, 82, 83, 84, 85, 86, 87, 45, 88, 89, 90, 91, 42, 43, 92, 93, 94, 95, 44, 96, 97, 98, 99, 100, 101, 102, 103, 112, 113, 114, 115, 116, 117, 118, 119, 120, 121, 122, 123, 124, 125] (by decide +kernel) (by decide +kernel)
set_option maxRecDepth 20000 in
theorem gX5_winner_X4_fight : GoodIn wsX5_winner (wsV RX5 120 RX4 yX4_fight wsX4_fight) := goodIn_app (goodIn_of _ (by decide +kernel)) ggX5_winner_X4_fight
theorem dX5_winner_0 : decode cX5_winner 0 = .ok (.aload_n 0, 1) := by decide +kernel
theorem dX5_winner_1 : decode cX5_winner 1 = .ok (.getfield 10, 3) := by decide +kernel
theorem dX5_winner_4 : decode cX5_winner 4 = .ok (.iload_n 1, 1) := by decide +kernel
theorem dX5_winner_5 : decode cX5_winner 5 = .ok (.iload_n 2, 1) := by decide +kernel
theorem dX5_winner_6 : decode cX5_winner 6 = .ok (.iload_n 3, 1) := by decide +kernel
theorem dX5_winner_7 : decode cX5_winner 7 = .ok (.invokevirtual 113, 3) := by decide +kernel
theorem dX5_winner_10 : decode cX5_winner 10 = .ok (.istore 4, 2) := by decide +kernel
theorem dX5_winner_12 : decode cX5_winner 12 = .ok (.iload 4, 2) := by decide +kernel
theorem dX5_winner_14 : decode cX5_winner 14 = .ok (.ifCond .eq 6, 3) := by decide +kernel
theorem dX5_winner_17 : decode cX5_winner 17 = .ok (.iload 4, 2) := by decide +kernel
theorem dX5_winner_19 : decode cX5_winner 19 = .ok (.ireturn, 1) := by decide +kernel
theorem dX5_winner_20 : decode cX5_winner 20 = .ok (.aload_n 0, 1) := by decide +kernel
theorem dX5_winner_21 : decode cX5_winner 21 = .ok (.getfield 19, 3) := by decide +kernel
theorem dX5_winner_24 : decode cX5_winner 24 = .ok (.aload_n 0, 1) := by decide +kernel
theorem dX5_winner_25 : decode cX5_winner 25 = .ok (.getfield 10, 3) := by decide +kernel
theorem dX5_winner_28 : decode cX5_winner 28 = .ok (.invokevirtual 164, 3) := by decide +kernel
theorem dX5_winner_31 : decode cX5_winner 31 = .ok (.aload_n 0, 1) := by decide +kernel
theorem dX5_winner_32 : decode cX5_winner 32 = .ok (.getfield 39, 3) := by decide +kernel
theorem dX5_winner_35 : decode cX5_winner 35 = .ok (.iload_n 3, 1) := by decide +kernel
theorem dX5_winner_36 : decode cX5_winner 36 = .ok (.invokevirtual 116, 3) := by decide +kernel
theorem dX5_winner_39 : decode cX5_winner 39 = .ok (.aload_n 0, 1) := by decide +kernel
theorem dX5_winner_40 : decode cX5_winner 40 = .ok (.getfield 19, 3) := by decide +kernel
theorem dX5_winner_43 : decode cX5_winner 43 = .ok (.iload_n 1, 1) := by decide +kernel
theorem dX5_winner_44 : decode cX5_winner 44 = .ok (.iload_n 2, 1) := by decide +kernel
theorem dX5_winner_45 : decode cX5_winner 45 = .ok (.aload_n 0, 1) := by decide +kernel
theorem dX5_winner_46 : decode cX5_winner 46 = .ok (.getfield 39, 3) := by decide +kernel
theorem dX5_winner_49 : decode cX5_winner 49 = .ok (.invokevirtual 120, 3) := by decide +kernel
theorem dX5_winner_52 : decode cX5_winner 52 = .ok (.pop, 1) := by decide +kernel
theorem dX5_winner_53 : decode cX5_winner 53 = .ok (.aload_n 0, 1) := by decide +kernel
theorem dX5_winner_54 : decode cX5_winner 54 = .ok (.getfield 19, 3) := by decide +kernel
theorem dX5_winner_57 : decode cX5_winner 57 = .ok (.getfield 101, 3) := by decide +kernel
theorem dX5_winner_60 : decode cX5_winner 60 = .ok (.iload_n 1, 1) := by decide +kernel
theorem dX5_winner_61 : decode cX5_winner 61 = .ok (.iaload, 1) := by decide +kernel
theorem dX5_winner_62 : decode cX5_winner 62 = .ok (.iconst 2, 1) := by decide +kernel
theorem dX5_winner_63 : decode cX5_winner 63 = .ok (.if_icmp .ne 7, 3) := by decide +kernel
theorem dX5_winner_66 : decode cX5_winner 66 = .ok (.iconst 1, 1) := by decide +kernel
theorem dX5_winner_67 : decode cX5_winner 67 = .ok (.goto 4, 3) := by decide +kernel
theorem dX5_winner_70 : decode cX5_winner 70 = .ok (.iconst 0, 1) := by decide +kernel
theorem dX5_winner_71 : decode cX5_winner 71 = .ok (.istore 5, 2) := by decide +kernel
theorem dX5_winner_73 : decode cX5_winner 73 = .ok (.aload_n 0, 1) := by decide +kernel
theorem dX5_winner_74 : decode cX5_winner 74 = .ok (.getfield 19, 3) := by decide +kernel
theorem dX5_winner_77 : decode cX5_winner 77 = .ok (.getfield 101, 3) := by decide +kernel
theorem dX5_winner_80 : decode cX5_winner 80 = .ok (.iload_n 2, 1) := by decide +kernel
theorem dX5_winner_81 : decode cX5_winner 81 = .ok (.iaload, 1) := by decide +kernel
theorem dX5_winner_82 : decode cX5_winner 82 = .ok (.iconst 2, 1) := by decide +kernel
theorem dX5_winner_83 : decode cX5_winner 83 = .ok (.if_icmp .ne 7, 3) := by decide +kernel
theorem dX5_winner_86 : decode cX5_winner 86 = .ok (.iconst 1, 1) := by decide +kernel
theorem dX5_winner_87 : decode cX5_winner 87 = .ok (.goto 4, 3) := by decide +kernel
theorem dX5_winner_90 : decode cX5_winner 90 = .ok (.iconst 0, 1) := by decide +kernel
theorem dX5_winner_91 : decode cX5_winner 91 = .ok (.istore 6, 2) := by decide +kernel
theorem dX5_winner_93 : decode cX5_winner 93 = .ok (.iload 5, 2) := by decide +kernel
theorem dX5_winner_95 : decode cX5_winner 95 = .ok (.iload 6, 2) := by decide +kernel
theorem dX5_winner_97 : decode cX5_winner 97 = .ok (.if_icmp .ne 6, 3) := by decide +kernel
theorem dX5_winner_100 : decode cX5_winner 100 = .ok (.bipush (-5), 2) := by decide +kernel
theorem dX5_winner_102 : decode cX5_winner 102 = .ok (.ireturn, 1) := by decide +kernel
theorem dX5_winner_103 : decode cX5_winner 103 = .ok (.iload 5, 2) := by decide +kernel
theorem dX5_winner_105 : decode cX5_winner 105 = .ok (.ifCond .eq 7, 3) := by decide +kernel
theorem dX5_winner_108 : decode cX5_winner 108 = .ok (.iload_n 2, 1) := by decide +kernel
theorem dX5_winner_109 : decode cX5_winner 109 = .ok (.goto 4, 3) := by decide +kernel
theorem dX5_winner_112 : decode cX5_winner 112 = .ok (.iload_n 1, 1) := by decide +kernel
theorem dX5_winner_113 : decode cX5_winner 113 = .ok (.ireturn, 1) := by decide +kernel
set_option maxRecDepth 20000 in
theorem ggX5_share_X4_victoriesOf : GoodIn wsX5_share wsX4_victoriesOf := goodIn_r _ [6, 7, 8, 9, 10, 11, 5, 12, 13, 29, 30, 31, 32, 33, 34, 35, 36, 37, 38, 39, 40, 41] (by decide +kernel) (by decide +kernel)
set_option maxRecDepth 20000 in
theorem gX5_share_X4_victoriesOf : GoodIn wsX5_share (wsV RX5 191 RX4 yX4_victoriesOf wsX4_victoriesOf) := goodIn_app (goodIn_of _ (by decide +kernel)) ggX5_share_X4_victoriesOf
set_option maxRecDepth 20000 in
theorem ggX5_share_X5_isPlayer : GoodIn wsX5_share wsX5_isPlayer := goodIn_r _ [17, 18, 19, 16, 20] (by decide +kernel) (by decide +kernel)
set_option maxRecDepth 20000 in
theorem gX5_share_X5_isPlayer : GoodIn wsX5_share (va_wsS RX5 54 yX5_isPlayer wsX5_isPlayer) := goodIn_app (goodIn_of _ (by decide +kernel)) ggX5_share_X5_isPlayer
theorem dX5_share_0 : decode cX5_share 0 = .ok (.aload_n 0, 1) := by decide +kernel
theorem dX5_share_1 : decode cX5_share 1 = .ok (.getfield 10, 3) := by decide +kernel
theorem dX5_share_4 : decode cX5_share 4 = .ok (.iconst (-1), 1) := by decide +kernel
theorem dX5_share_5 : decode cX5_share 5 = .ok (.invokevirtual 191, 3) := by decide +kernel
theorem dX5_share_8 : decode cX5_share 8 = .ok (.istore_n 2, 1) := by decide +kernel
theorem dX5_share_9 : decode cX5_share 9 = .ok (.iload_n 1, 1) := by decide +kernel
theorem dX5_share_10 : decode cX5_share 10 = .ok (.invokestatic 54, 3) := by decide +kernel
theorem dX5_share_13 : decode cX5_share 13 = .ok (.ifCond .eq 8, 3) := by decide +kernel
theorem dX5_share_16 : decode cX5_share 16 = .ok (.iload_n 2, 1) := by decide +kernel
theorem dX5_share_17 : decode cX5_share 17 = .ok (.iconst 1, 1) := by decide +kernel
theorem dX5_share_18 : decode cX5_share 18 = .ok (.if_icmp .ge 5, 3) := by decide +kernel
theorem dX5_share_21 : decode cX5_share 21 = .ok (.fconst 0, 1) := by decide +kernel
theorem dX5_share_22 : decode cX5_share 22 = .ok (.freturn, 1) := by decide +kernel
theorem dX5_share_23 : decode cX5_share 23 = .ok (.aload_n 0, 1) := by decide +kernel
theorem dX5_share_24 : decode cX5_share 24 = .ok (.getfield 10, 3) := by decide +kernel
theorem dX5_share_27 : decode cX5_share 27 = .ok (.iload_n 1, 1) := by decide +kernel
theorem dX5_share_28 : decode cX5_share 28 = .ok (.invokevirtual 191, 3) := by decide +kernel
theorem dX5_share_31 : decode cX5_share 31 = .ok (.i2f, 1) := by decide +kernel
theorem dX5_share_32 : decode cX5_share 32 = .ok (.iload_n 2, 1) := by decide +kernel
theorem dX5_share_33 : decode cX5_share 33 = .ok (.i2f, 1) := by decide +kernel
theorem dX5_share_34 : decode cX5_share 34 = .ok (.fdiv, 1) := by decide +kernel
theorem dX5_share_35 : decode cX5_share 35 = .ok (.freturn, 1) := by decide +kernel
theorem dX5_isWithin_0 : decode cX5_isWithin 0 = .ok (.iload_n 0, 1) := by decide +kernel
theorem dX5_isWithin_1 : decode cX5_isWithin 1 = .ok (.iload_n 1, 1) := by decide +kernel
theorem dX5_isWithin_2 : decode cX5_isWithin 2 = .ok (.if_icmp .lt 12, 3) := by decide +kernel
theorem dX5_isWithin_5 : decode cX5_isWithin 5 = .ok (.iload_n 0, 1) := by decide +kernel
theorem dX5_isWithin_6 : decode cX5_isWithin 6 = .ok (.iload_n 2, 1) := by decide +kernel
theorem dX5_isWithin_7 : decode cX5_isWithin 7 = .ok (.if_icmp .gt 7, 3) := by decide +kernel
theorem dX5_isWithin_10 : decode cX5_isWithin 10 = .ok (.iconst 1, 1) := by decide +kernel
theorem dX5_isWithin_11 : decode cX5_isWithin 11 = .ok (.goto 4, 3) := by decide +kernel
theorem dX5_isWithin_14 : decode cX5_isWithin 14 = .ok (.iconst 0, 1) := by decide +kernel
theorem dX5_isWithin_15 : decode cX5_isWithin 15 = .ok (.ireturn, 1) := by decide +kernel
set_option maxRecDepth 20000 in
theorem ggX5_isPlayer_X5_isWithin : GoodIn wsX5_isPlayer wsX5_isWithin := goodIn_r _ [4] (by decide +kernel) (by decide +kernel)
set_option maxRecDepth 20000 in
theorem gX5_isPlayer_X5_isWithin : GoodIn wsX5_isPlayer (va_wsS RX5 58 yX5_isWithin wsX5_isWithin) := goodIn_app (goodIn_of _ (by decide +kernel)) ggX5_isPlayer_X5_isWithin
theorem dX5_isPlayer_0 : decode cX5_isPlayer 0 = .ok (.iload_n 0, 1) := by decide +kernel
theorem dX5_isPlayer_1 : decode cX5_isPlayer 1 = .ok (.iconst 0, 1) := by decide +kernel
theorem dX5_isPlayer_2 : decode cX5_isPlayer 2 = .ok (.iconst 5, 1) := by decide +kernel
theorem dX5_isPlayer_3 : decode cX5_isPlayer 3 = .ok (.invokestatic 58, 3) := by decide +kernel
theorem dX5_isPlayer_6 : decode cX5_isPlayer 6 = .ok (.ireturn, 1) := by decide +kernel
set_option maxRecDepth 20000 in
theorem ggX5_tryHit_X4_copyFrom : GoodIn wsX5_tryHit wsX4_copyFrom := goodIn_r _ [7, 8, 9, 10, 11, 12, 13, 14, 15, 16, 17, 18, 19, 20, 21, 22, 23, 24, 68, 69, 70, 71, 72, 73, 74, 75, 76, 77, 78, 79, 80] (by decide +kernel) (by decide +kernel)
set_option maxRecDepth 20000 in
theorem gX5_tryHit_X4_copyFrom : GoodIn wsX5_tryHit (wsV RX5 164 RX4 yX4_copyFrom wsX4_copyFrom) := goodIn_app (goodIn_of _ (by decide +kernel)) ggX5_tryHit_X4_copyFrom
set_option maxRecDepth 20000 in
theorem ggX5_tryHit_X4_hit : GoodIn wsX5_tryHit wsX4_hit := goodIn_r _ [28, 15, 24, 16, 29, 30, 31, 32, 17, 33, 34, 6, 35, 36, 37, 38, 39, 40, 41, 42, 43, 23, 44, 45, 46, 47, 18, 19, 20, 48, 49, 50, 51, 21, 52, 53, 54, 55, 56, 57, 58, 59, 68, 69, 70, 71, 72, 73, 74, 75, 76, 77, 78, 79, 80] (by decide +kernel) (by decide +kernel)
set_option maxRecDepth 20000 in
theorem gX5_tryHit_X4_hit : GoodIn wsX5_tryHit (wsV RX5 82 RX4 yX4_hit wsX4_hit) := goodIn_app (goodIn_of _ (by decide +kernel)) ggX5_tryHit_X4_hit
theorem dX5_tryHit_0 : decode cX5_tryHit 0 = .ok (.aload_n 0, 1) := by decide +kernel
theorem dX5_tryHit_1 : decode cX5_tryHit 1 = .ok (.getfield 19, 3) := by decide +kernel
theorem dX5_tryHit_4 : decode cX5_tryHit 4 = .ok (.aload_n 0, 1) := by decide +kernel
theorem dX5_tryHit_5 : decode cX5_tryHit 5 = .ok (.getfield 10, 3) := by decide +kernel
theorem dX5_tryHit_8 : decode cX5_tryHit 8 = .ok (.invokevirtual 164, 3) := by decide +kernel
theorem dX5_tryHit_11 : decode cX5_tryHit 11 = .ok (.aload_n 0, 1) := by decide +kernel
theorem dX5_tryHit_12 : decode cX5_tryHit 12 = .ok (.getfield 19, 3) := by decide +kernel
theorem dX5_tryHit_15 : decode cX5_tryHit 15 = .ok (.iload_n 1, 1) := by decide +kernel
theorem dX5_tryHit_16 : decode cX5_tryHit 16 = .ok (.iload_n 2, 1) := by decide +kernel
theorem dX5_tryHit_17 : decode cX5_tryHit 17 = .ok (.iload_n 3, 1) := by decide +kernel
theorem dX5_tryHit_18 : decode cX5_tryHit 18 = .ok (.invokevirtual 82, 3) := by decide +kernel
theorem dX5_tryHit_21 : decode cX5_tryHit 21 = .ok (.ireturn, 1) := by decide +kernel
theorem dJ9_max_7cf53_0 : decode cJ9_max_7cf53 0 = .ok (.iload_n 0, 1) := by decide +kernel
theorem dJ9_max_7cf53_1 : decode cJ9_max_7cf53 1 = .ok (.iload_n 1, 1) := by decide +kernel
theorem dJ9_max_7cf53_2 : decode cJ9_max_7cf53 2 = .ok (.if_icmp .lt 7, 3) := by decide +kernel
theorem dJ9_max_7cf53_5 : decode cJ9_max_7cf53 5 = .ok (.iload_n 0, 1) := by decide +kernel
theorem dJ9_max_7cf53_6 : decode cJ9_max_7cf53 6 = .ok (.goto 4, 3) := by decide +kernel
theorem dJ9_max_7cf53_9 : decode cJ9_max_7cf53 9 = .ok (.iload_n 1, 1) := by decide +kernel
theorem dJ9_max_7cf53_10 : decode cJ9_max_7cf53 10 = .ok (.ireturn, 1) := by decide +kernel
theorem dJ9_min_7cf53_0 : decode cJ9_min_7cf53 0 = .ok (.iload_n 0, 1) := by decide +kernel
theorem dJ9_min_7cf53_1 : decode cJ9_min_7cf53 1 = .ok (.iload_n 1, 1) := by decide +kernel
theorem dJ9_min_7cf53_2 : decode cJ9_min_7cf53 2 = .ok (.if_icmp .gt 7, 3) := by decide +kernel
theorem dJ9_min_7cf53_5 : decode cJ9_min_7cf53 5 = .ok (.iload_n 0, 1) := by decide +kernel
theorem dJ9_min_7cf53_6 : decode cJ9_min_7cf53 6 = .ok (.goto 4, 3) := by decide +kernel
theorem dJ9_min_7cf53_9 : decode cJ9_min_7cf53 9 = .ok (.iload_n 1, 1) := by decide +kernel
theorem dJ9_min_7cf53_10 : decode cJ9_min_7cf53 10 = .ok (.ireturn, 1) := by decide +kernel
theorem dL_cell_0 : decode cL_cell 0 = .ok (.iload_n 1, 1) := by decide +kernel
theorem dL_cell_1 : decode cL_cell 1 = .ok (.aload_n 0, 1) := by decide +kernel
theorem dL_cell_2 : decode cL_cell 2 = .ok (.arraylength, 1) := by decide +kernel
theorem dL_cell_3 : decode cL_cell 3 = .ok (.if_icmp .ge 9, 3) := by decide +kernel
theorem dL_cell_6 : decode cL_cell 6 = .ok (.aload_n 0, 1) := by decide +kernel
theorem dL_cell_7 : decode cL_cell 7 = .ok (.iload_n 1, 1) := by decide +kernel
theorem dL_cell_8 : decode cL_cell 8 = .ok (.iaload, 1) := by decide +kernel
theorem dL_cell_9 : decode cL_cell 9 = .ok (.goto 12, 3) := by decide +kernel
theorem dL_cell_12 : decode cL_cell 12 = .ok (.ldc 7, 2) := by decide +kernel
theorem dL_cell_14 : decode cL_cell 14 = .ok (.iload_n 1, 1) := by decide +kernel
theorem dL_cell_15 : decode cL_cell 15 = .ok (.iconst 1, 1) := by decide +kernel
theorem dL_cell_16 : decode cL_cell 16 = .ok (.iadd, 1) := by decide +kernel
theorem dL_cell_17 : decode cL_cell 17 = .ok (.imul, 1) := by decide +kernel
theorem dL_cell_18 : decode cL_cell 18 = .ok (.ldc 8, 2) := by decide +kernel
theorem dL_cell_20 : decode cL_cell 20 = .ok (.iadd, 1) := by decide +kernel
theorem dL_cell_21 : decode cL_cell 21 = .ok (.ireturn, 1) := by decide +kernel
theorem dL_low_0 : decode cL_low 0 = .ok (.iload_n 0, 1) := by decide +kernel
theorem dL_low_1 : decode cL_low 1 = .ok (.ldc 9, 2) := by decide +kernel
theorem dL_low_3 : decode cL_low 3 = .ok (.iand, 1) := by decide +kernel
theorem dL_low_4 : decode cL_low 4 = .ok (.iload_n 1, 1) := by decide +kernel
theorem dL_low_5 : decode cL_low 5 = .ok (.irem, 1) := by decide +kernel
theorem dL_low_6 : decode cL_low 6 = .ok (.ireturn, 1) := by decide +kernel
set_option maxRecDepth 20000 in
theorem ggL_act_L_low : GoodIn wsL_act wsL_low := goodIn_r _ [5, 6] (by decide +kernel) (by decide +kernel)
set_option maxRecDepth 20000 in
theorem gL_act_L_low : GoodIn wsL_act (va_wsS RL 10 yL_low wsL_low) := goodIn_app (goodIn_of _ (by decide +kernel)) ggL_act_L_low
set_option maxRecDepth 20000 in
theorem ggL_act_X5_thread : GoodIn wsL_act wsX5_thread := goodIn_r _ [11, 12, 13, 14, 15, 16, 17, 10, 18, 19, 20, 21, 22, 23, 24, 25, 26, 27, 28, 29, 30, 31, 32, 33, 34, 35, 36, 37, 38, 39, 40, 41, 42, 43, 44, 45, 46, 47, 48, 49, 50, 51, 52, 53, 54, 55, 56, 57, 58, 218, 219, 220, 221, 222, 223, 224, 225, 226, 227, 228, 229, 230, 231, 232, 233, 234, 235, 236, 237, 238, 239, 240] (by decide +kernel) (by decide +kernel)
set_option maxRecDepth 20000 in
theorem gL_act_X5_thread : GoodIn wsL_act (wsV RL 16 RX5 yX5_thread wsX5_thread) := goodIn_app (goodIn_of _ (by decide +kernel)) ggL_act_X5_thread
set_option maxRecDepth 20000 in
theorem ggL_act_X5_give : GoodIn wsL_act wsX5_give := goodIn_r _ [62, 12, 13, 15, 16, 17, 10, 18, 19, 20, 21, 22, 23, 24, 25, 26, 27, 28, 29, 30, 31, 32, 33, 34, 35, 36, 37, 38, 39, 40, 41, 42, 43, 44, 45, 46, 47, 48, 49, 50, 51, 52, 53, 54, 218, 219, 220, 221, 222, 223, 224, 225, 226, 227, 228, 229, 230, 231, 232, 233, 234, 235, 236, 237, 238, 239, 240] (by decide +kernel) (by decide +kernel)
set_option maxRecDepth 20000 in
theorem gL_act_X5_give : GoodIn wsL_act (wsV RL 21 RX5 yX5_give wsX5_give) := goodIn_app (goodIn_of _ (by decide +kernel)) ggL_act_X5_give
set_option maxRecDepth 20000 in
theorem ggL_act_X5_boast : GoodIn wsL_act wsX5_boast := goodIn_r _ [66, 12, 67, 15, 68, 69, 70, 71, 36, 72, 52, 20, 10, 21, 19, 22, 23, 24, 25, 26, 27, 28, 29, 30, 31, 32, 33, 34, 35, 37, 38, 39, 40, 41, 42, 43, 44, 45, 46, 47, 48, 49, 50, 51, 53, 54, 218, 219, 220, 221, 222, 223, 224, 225, 226, 227, 228, 229, 230, 231, 232, 233, 234, 235, 236, 237, 238, 239, 240] (by decide +kernel) (by decide +kernel)
set_option maxRecDepth 20000 in
theorem gL_act_X5_boast : GoodIn wsL_act (wsV RL 24 RX5 yX5_boast wsX5_boast) := goodIn_app (goodIn_of _ (by decide +kernel)) ggL_act_X5_boast
set_option maxRecDepth 20000 in
theorem ggL_act_X5_doubt : GoodIn wsL_act wsX5_doubt := goodIn_r _ [76, 12, 77, 68, 15, 16, 17, 10, 18, 19, 20, 21, 69, 70, 71, 36, 72, 52, 22, 23, 24, 25, 26, 27, 28, 29, 30, 31, 32, 33, 34, 35, 37, 38, 39, 40, 41, 42, 43, 44, 45, 46, 47, 48, 49, 50, 51, 53, 54, 78, 79, 80, 81, 218, 219, 220, 221, 222, 223, 224, 225, 226, 227, 228, 229, 230, 231, 232, 233, 234, 235, 236, 237, 238, 239, 240] (by decide +kernel) (by decide +kernel)
set_option maxRecDepth 20000 in
theorem gL_act_X5_doubt : GoodIn wsL_act (wsV RL 27 RX5 yX5_doubt wsX5_doubt) := goodIn_app (goodIn_of _ (by decide +kernel)) ggL_act_X5_doubt
set_option maxRecDepth 20000 in
theorem ggL_act_X5_mend : GoodIn wsL_act wsX5_mend := goodIn_r _ [85, 12, 15, 86, 87, 88, 36, 89, 38, 44, 90, 91, 92, 93, 50, 94, 70, 71, 72, 52, 20, 10, 21, 22, 23, 24, 25, 26, 27, 28, 29, 30, 31, 32, 33, 34, 35, 37, 39, 40, 41, 42, 43, 45, 46, 47, 48, 49, 51, 53, 54, 95, 96, 97, 98, 218, 219, 220, 221, 222, 223, 224, 225, 226, 227, 228, 229, 230, 231, 232, 233, 234, 235, 236, 237, 238, 239, 240] (by decide +kernel) (by decide +kernel)
set_option maxRecDepth 20000 in
theorem gL_act_X5_mend : GoodIn wsL_act (wsV RL 30 RX5 yX5_mend wsX5_mend) := goodIn_app (goodIn_of _ (by decide +kernel)) ggL_act_X5_mend
set_option maxRecDepth 20000 in
theorem ggL_act_X5_stamp : GoodIn wsL_act wsX5_stamp := goodIn_r _ [102, 12, 15, 103, 91, 92, 36, 93, 50, 94, 70, 71, 72, 52, 20, 10, 21, 22, 23, 24, 25, 26, 27, 28, 29, 30, 31, 32, 33, 34, 35, 37, 38, 39, 40, 41, 42, 43, 44, 45, 46, 47, 48, 49, 51, 53, 54, 104, 105, 106, 107, 108, 109, 110, 111, 218, 219, 220, 221, 222, 223, 224, 225, 226, 227, 228, 229, 230, 231, 232, 233, 234, 235, 236, 237, 238, 239, 240] (by decide +kernel) (by decide +kernel)
set_option maxRecDepth 20000 in
theorem gL_act_X5_stamp : GoodIn wsL_act (wsV RL 34 RX5 yX5_stamp wsX5_stamp) := goodIn_app (goodIn_of _ (by decide +kernel)) ggL_act_X5_stamp
set_option maxRecDepth 20000 in
theorem ggL_act_X5_bout : GoodIn wsL_act wsX5_bout := goodIn_r _ [115, 12, 15, 116, 117, 118, 119, 36, 120, 121, 20, 10, 21, 122, 123, 124, 125, 44, 94, 70, 71, 72, 52, 126, 127, 128, 129, 50, 22, 23, 24, 25, 26, 27, 28, 29, 30, 31, 32, 33, 34, 35, 37, 38, 39, 40, 41, 42, 43, 45, 46, 47, 48, 49, 51, 53, 54, 130, 131, 132, 133, 134, 135, 136, 137, 138, 139, 140, 141, 142, 143, 144, 145, 146, 147, 148, 149, 150, 151, 152, 153, 154, 155, 156, 157, 158, 159, 160, 161, 162, 163, 164, 165, 166, 167, 105, 106, 107, 108, 109, 110, 111, 168, 169, 170, 171, 172, 173, 174, 175, 176, 177, 178, 179, 218, 219, 220, 221, 222, 223, 224, 225, 226, 227, 228, 229, 230, 231, 232, 233, 234, 235, 236, 237, 238, 239, 240, 241] (by decide +kernel) (by decide +kernel)
set_option maxRecDepth 20000 in
theorem gL_act_X5_bout : GoodIn wsL_act (wsV RL 38 RX5 yX5_bout wsX5_bout) := goodIn_app (goodIn_of _ (by decide +kernel)) ggL_act_X5_bout
set_option maxRecDepth 20000 in
theorem ggL_act_X5_round : GoodIn wsL_act wsX5_round := goodIn_r _ [183, 184, 15, 12, 116, 185, 186, 19, 20, 10, 21, 22, 23, 24, 25, 26, 27, 28, 29, 30, 31, 32, 33, 34, 35, 36, 37, 38, 39, 40, 41, 42, 43, 44, 45, 46, 47, 48, 49, 50, 51, 52, 53, 54, 130, 131, 132, 133, 134, 135, 187, 188, 189, 190, 191, 192, 193, 194, 195, 196, 197, 198, 199, 200, 201, 202, 203, 204, 152, 153, 154, 155, 205, 206, 207, 208, 136, 137, 138, 139, 140, 141, 142, 143, 144, 145, 146, 126, 127, 128, 129, 147, 148, 149, 150, 151, 156, 157, 158, 159, 160, 161, 162, 163, 164, 165, 166, 167, 105, 106, 107, 108, 109, 110, 111, 168, 169, 170, 171, 172, 173, 174, 175, 176, 177, 178, 179, 218, 219, 220, 221, 222, 223, 224, 225, 242, 243, 239, 240, 226, 227, 228, 229, 230, 231, 232, 233, 234, 235, 236, 237, 238, 241] (by decide +kernel) (by decide +kernel)
set_option maxRecDepth 20000 in
theorem gL_act_X5_round : GoodIn wsL_act (wsV RL 42 RX5 yX5_round wsX5_round) := goodIn_app (goodIn_of _ (by decide +kernel)) ggL_act_X5_round
set_option maxRecDepth 20000 in
theorem ggL_act_X5_strike : GoodIn wsL_act wsX5_strike := goodIn_r _ [212, 12, 15, 213, 214, 215, 36, 216, 20, 10, 21, 122, 123, 124, 125, 44, 94, 70, 71, 72, 52, 126, 127, 128, 129, 50, 22, 23, 24, 25, 26, 27, 28, 29, 30, 31, 32, 33, 34, 35, 37, 38, 39, 40, 41, 42, 43, 45, 46, 47, 48, 49, 51, 53, 54, 217, 157, 158, 159, 140, 141, 142, 143, 160, 161, 162, 163, 164, 165, 166, 167, 105, 106, 107, 108, 109, 110, 111, 168, 169, 170, 171, 172, 173, 174, 175, 176, 177, 178, 179, 218, 219, 220, 221, 222, 223, 224, 225, 226, 227, 228, 229, 230, 231, 232, 233, 234, 235, 236, 237, 238, 239, 240] (by decide +kernel) (by decide +kernel)
set_option maxRecDepth 20000 in
theorem gL_act_X5_strike : GoodIn wsL_act (wsV RL 45 RX5 yX5_strike wsX5_strike) := goodIn_app (goodIn_of _ (by decide +kernel)) ggL_act_X5_strike
theorem dL_act_0 : decode cL_act 0 = .ok (.iload_n 1, 1) := by decide +kernel
theorem dL_act_1 : decode cL_act 1 = .ok (.iconst 4, 1) := by decide +kernel
theorem dL_act_2 : decode cL_act 2 = .ok (.ishr, 1) := by decide +kernel
theorem dL_act_3 : decode cL_act 3 = .ok (.bipush 9, 2) := by decide +kernel
theorem dL_act_5 : decode cL_act 5 = .ok (.invokestatic 10, 3) := by decide +kernel
theorem dL_act_8 : decode cL_act 8 = .ok (.istore_n 3, 1) := by decide +kernel
theorem dL_act_9 : decode cL_act 9 = .ok (.iload_n 1, 1) := by decide +kernel
theorem dL_act_10 : decode cL_act 10 = .ok (.bipush 8, 2) := by decide +kernel
theorem dL_act_12 : decode cL_act 12 = .ok (.ishr, 1) := by decide +kernel
theorem dL_act_13 : decode cL_act 13 = .ok (.bipush 9, 2) := by decide +kernel
theorem dL_act_15 : decode cL_act 15 = .ok (.invokestatic 10, 3) := by decide +kernel
theorem dL_act_18 : decode cL_act 18 = .ok (.istore 4, 2) := by decide +kernel
theorem dL_act_20 : decode cL_act 20 = .ok (.iload_n 1, 1) := by decide +kernel
theorem dL_act_21 : decode cL_act 21 = .ok (.bipush 17, 2) := by decide +kernel
theorem dL_act_23 : decode cL_act 23 = .ok (.invokestatic 10, 3) := by decide +kernel
theorem dL_act_26 : decode cL_act 26 = .ok (.tableswitch 189 0 12 #[66, 66, 86, 106, 117, 117, 129, 129, 135, 164, 164, 178, 178], 66) := by decide +kernel
theorem dL_act_92 : decode cL_act 92 = .ok (.aload_n 0, 1) := by decide +kernel
theorem dL_act_93 : decode cL_act 93 = .ok (.iload_n 1, 1) := by decide +kernel
theorem dL_act_94 : decode cL_act 94 = .ok (.iconst 4, 1) := by decide +kernel
theorem dL_act_95 : decode cL_act 95 = .ok (.ishr, 1) := by decide +kernel
theorem dL_act_96 : decode cL_act 96 = .ok (.iconst 4, 1) := by decide +kernel
theorem dL_act_97 : decode cL_act 97 = .ok (.invokestatic 10, 3) := by decide +kernel
theorem dL_act_100 : decode cL_act 100 = .ok (.iconst 1, 1) := by decide +kernel
theorem dL_act_101 : decode cL_act 101 = .ok (.iload_n 2, 1) := by decide +kernel
theorem dL_act_102 : decode cL_act 102 = .ok (.bipush 9, 2) := by decide +kernel
theorem dL_act_104 : decode cL_act 104 = .ok (.invokestatic 10, 3) := by decide +kernel
theorem dL_act_107 : decode cL_act 107 = .ok (.iadd, 1) := by decide +kernel
theorem dL_act_108 : decode cL_act 108 = .ok (.invokevirtual 16, 3) := by decide +kernel
theorem dL_act_111 : decode cL_act 111 = .ok (.ireturn, 1) := by decide +kernel
theorem dL_act_112 : decode cL_act 112 = .ok (.aload_n 0, 1) := by decide +kernel
theorem dL_act_113 : decode cL_act 113 = .ok (.iload_n 1, 1) := by decide +kernel
theorem dL_act_114 : decode cL_act 114 = .ok (.iconst 4, 1) := by decide +kernel
theorem dL_act_115 : decode cL_act 115 = .ok (.ishr, 1) := by decide +kernel
theorem dL_act_116 : decode cL_act 116 = .ok (.iconst 4, 1) := by decide +kernel
theorem dL_act_117 : decode cL_act 117 = .ok (.invokestatic 10, 3) := by decide +kernel
theorem dL_act_120 : decode cL_act 120 = .ok (.iconst 1, 1) := by decide +kernel
theorem dL_act_121 : decode cL_act 121 = .ok (.iload_n 2, 1) := by decide +kernel
theorem dL_act_122 : decode cL_act 122 = .ok (.bipush 9, 2) := by decide +kernel
theorem dL_act_124 : decode cL_act 124 = .ok (.invokestatic 10, 3) := by decide +kernel
theorem dL_act_127 : decode cL_act 127 = .ok (.iadd, 1) := by decide +kernel
theorem dL_act_128 : decode cL_act 128 = .ok (.invokevirtual 21, 3) := by decide +kernel
theorem dL_act_131 : decode cL_act 131 = .ok (.ireturn, 1) := by decide +kernel
theorem dL_act_132 : decode cL_act 132 = .ok (.aload_n 0, 1) := by decide +kernel
theorem dL_act_133 : decode cL_act 133 = .ok (.iload_n 3, 1) := by decide +kernel
theorem dL_act_134 : decode cL_act 134 = .ok (.iload_n 2, 1) := by decide +kernel
theorem dL_act_135 : decode cL_act 135 = .ok (.iconst 4, 1) := by decide +kernel
theorem dL_act_136 : decode cL_act 136 = .ok (.invokestatic 10, 3) := by decide +kernel
theorem dL_act_139 : decode cL_act 139 = .ok (.invokevirtual 24, 3) := by decide +kernel
theorem dL_act_142 : decode cL_act 142 = .ok (.ireturn, 1) := by decide +kernel
theorem dL_act_143 : decode cL_act 143 = .ok (.aload_n 0, 1) := by decide +kernel
theorem dL_act_144 : decode cL_act 144 = .ok (.iload_n 2, 1) := by decide +kernel
theorem dL_act_145 : decode cL_act 145 = .ok (.bipush 6, 2) := by decide +kernel
theorem dL_act_147 : decode cL_act 147 = .ok (.invokestatic 10, 3) := by decide +kernel
theorem dL_act_150 : decode cL_act 150 = .ok (.iload_n 3, 1) := by decide +kernel
theorem dL_act_151 : decode cL_act 151 = .ok (.invokevirtual 27, 3) := by decide +kernel
theorem dL_act_154 : decode cL_act 154 = .ok (.ireturn, 1) := by decide +kernel
theorem dL_act_155 : decode cL_act 155 = .ok (.aload_n 0, 1) := by decide +kernel
theorem dL_act_156 : decode cL_act 156 = .ok (.iload_n 3, 1) := by decide +kernel
theorem dL_act_157 : decode cL_act 157 = .ok (.invokevirtual 30, 3) := by decide +kernel
theorem dL_act_160 : decode cL_act 160 = .ok (.ireturn, 1) := by decide +kernel
theorem dL_act_161 : decode cL_act 161 = .ok (.iload_n 2, 1) := by decide +kernel
theorem dL_act_162 : decode cL_act 162 = .ok (.iconst 2, 1) := by decide +kernel
theorem dL_act_163 : decode cL_act 163 = .ok (.invokestatic 10, 3) := by decide +kernel
theorem dL_act_166 : decode cL_act 166 = .ok (.ifCond .ne 11, 3) := by decide +kernel
theorem dL_act_169 : decode cL_act 169 = .ok (.aload_n 0, 1) := by decide +kernel
theorem dL_act_170 : decode cL_act 170 = .ok (.iload_n 3, 1) := by decide +kernel
theorem dL_act_171 : decode cL_act 171 = .ok (.invokevirtual 34, 3) := by decide +kernel
theorem dL_act_174 : decode cL_act 174 = .ok (.goto 15, 3) := by decide +kernel
theorem dL_act_177 : decode cL_act 177 = .ok (.aload_n 0, 1) := by decide +kernel
theorem dL_act_178 : decode cL_act 178 = .ok (.iload_n 3, 1) := by decide +kernel
theorem dL_act_179 : decode cL_act 179 = .ok (.iload_n 2, 1) := by decide +kernel
theorem dL_act_180 : decode cL_act 180 = .ok (.iconst 1, 1) := by decide +kernel
theorem dL_act_181 : decode cL_act 181 = .ok (.ishr, 1) := by decide +kernel
theorem dL_act_182 : decode cL_act 182 = .ok (.iconst 3, 1) := by decide +kernel
theorem dL_act_183 : decode cL_act 183 = .ok (.invokestatic 10, 3) := by decide +kernel
theorem dL_act_186 : decode cL_act 186 = .ok (.invokevirtual 24, 3) := by decide +kernel
theorem dL_act_189 : decode cL_act 189 = .ok (.ireturn, 1) := by decide +kernel
theorem dL_act_190 : decode cL_act 190 = .ok (.aload_n 0, 1) := by decide +kernel
theorem dL_act_191 : decode cL_act 191 = .ok (.iload_n 3, 1) := by decide +kernel
theorem dL_act_192 : decode cL_act 192 = .ok (.iload 4, 2) := by decide +kernel
theorem dL_act_194 : decode cL_act 194 = .ok (.iload_n 2, 1) := by decide +kernel
theorem dL_act_195 : decode cL_act 195 = .ok (.ldc 37, 2) := by decide +kernel
theorem dL_act_197 : decode cL_act 197 = .ok (.invokestatic 10, 3) := by decide +kernel
theorem dL_act_200 : decode cL_act 200 = .ok (.invokevirtual 38, 3) := by decide +kernel
theorem dL_act_203 : decode cL_act 203 = .ok (.ireturn, 1) := by decide +kernel
theorem dL_act_204 : decode cL_act 204 = .ok (.aload_n 0, 1) := by decide +kernel
theorem dL_act_205 : decode cL_act 205 = .ok (.iload_n 2, 1) := by decide +kernel
theorem dL_act_206 : decode cL_act 206 = .ok (.ldc 37, 2) := by decide +kernel
theorem dL_act_208 : decode cL_act 208 = .ok (.invokestatic 10, 3) := by decide +kernel
theorem dL_act_211 : decode cL_act 211 = .ok (.invokevirtual 42, 3) := by decide +kernel
theorem dL_act_214 : decode cL_act 214 = .ok (.ireturn, 1) := by decide +kernel
theorem dL_act_215 : decode cL_act 215 = .ok (.aload_n 0, 1) := by decide +kernel
theorem dL_act_216 : decode cL_act 216 = .ok (.iload_n 3, 1) := by decide +kernel
theorem dL_act_217 : decode cL_act 217 = .ok (.iload 4, 2) := by decide +kernel
theorem dL_act_219 : decode cL_act 219 = .ok (.iconst 1, 1) := by decide +kernel
theorem dL_act_220 : decode cL_act 220 = .ok (.iload_n 2, 1) := by decide +kernel
theorem dL_act_221 : decode cL_act 221 = .ok (.bipush 9, 2) := by decide +kernel
theorem dL_act_223 : decode cL_act 223 = .ok (.invokestatic 10, 3) := by decide +kernel
theorem dL_act_226 : decode cL_act 226 = .ok (.iadd, 1) := by decide +kernel
theorem dL_act_227 : decode cL_act 227 = .ok (.invokevirtual 45, 3) := by decide +kernel
theorem dL_act_230 : decode cL_act 230 = .ok (.ireturn, 1) := by decide +kernel
set_option maxRecDepth 20000 in
theorem ggL_conkers_X5_count : GoodIn wsL_conkers wsX5_count := goodIn_r _ [6, 7, 8, 9, 10, 11, 12, 13, 14, 15, 16, 17, 18, 19, 20, 21, 22, 23, 24, 25, 26, 27, 28, 29, 30, 31, 32, 33, 34, 35, 36, 37, 38, 39, 40, 41, 42, 43, 44, 45, 46, 47, 48, 49, 82, 83, 84, 85, 86, 87, 88, 89, 90, 91, 92, 93, 94, 95, 96, 97, 98, 99, 100, 101, 102, 103, 104, 105, 106, 107, 108, 109, 110, 111] (by decide +kernel) (by decide +kernel)
set_option maxRecDepth 20000 in
theorem gL_conkers_X5_count : GoodIn wsL_conkers (wsV RL 48 RX5 yX5_count wsX5_count) := goodIn_app (goodIn_of _ (by decide +kernel)) ggL_conkers_X5_count
set_option maxRecDepth 20000 in
theorem ggL_conkers_X5_conker : GoodIn wsL_conkers wsX5_conker := goodIn_r _ [53, 7, 54, 55, 56, 57, 58, 59, 60, 61, 62, 63, 64, 18, 65, 20, 66, 5, 67, 68, 37, 38, 39, 40, 82, 83, 84, 85, 86, 87, 88, 89, 90, 91, 92, 93, 94, 95, 96, 97, 98, 99, 100, 101, 102] (by decide +kernel) (by decide +kernel)
set_option maxRecDepth 20000 in
theorem gL_conkers_X5_conker : GoodIn wsL_conkers (wsV RL 51 RX5 yX5_conker wsX5_conker) := goodIn_app (goodIn_of _ (by decide +kernel)) ggL_conkers_X5_conker
set_option maxRecDepth 20000 in
theorem ggL_conkers_X5_line : GoodIn wsL_conkers wsX5_line := goodIn_r _ [72, 7, 62, 63, 64, 18, 65, 20, 66, 5, 67, 73, 74, 75, 76, 77, 78, 79, 80, 40, 81, 82, 83, 84, 85, 86, 87, 88, 89, 90, 91, 92, 93, 94, 95, 96, 97, 98, 99, 100, 101, 102] (by decide +kernel) (by decide +kernel)
set_option maxRecDepth 20000 in
theorem gL_conkers_X5_line : GoodIn wsL_conkers (wsV RL 54 RX5 yX5_line wsX5_line) := goodIn_app (goodIn_of _ (by decide +kernel)) ggL_conkers_X5_line
theorem dL_conkers_0 : decode cL_conkers 0 = .ok (.iconst 3, 1) := by decide +kernel
theorem dL_conkers_1 : decode cL_conkers 1 = .ok (.newarray .int, 2) := by decide +kernel
theorem dL_conkers_3 : decode cL_conkers 3 = .ok (.astore_n 1, 1) := by decide +kernel
theorem dL_conkers_4 : decode cL_conkers 4 = .ok (.iconst 0, 1) := by decide +kernel
theorem dL_conkers_5 : decode cL_conkers 5 = .ok (.istore_n 2, 1) := by decide +kernel
theorem dL_conkers_6 : decode cL_conkers 6 = .ok (.iconst 0, 1) := by decide +kernel
theorem dL_conkers_7 : decode cL_conkers 7 = .ok (.istore_n 3, 1) := by decide +kernel
theorem dL_conkers_8 : decode cL_conkers 8 = .ok (.iconst 0, 1) := by decide +kernel
theorem dL_conkers_9 : decode cL_conkers 9 = .ok (.istore 4, 2) := by decide +kernel
theorem dL_conkers_11 : decode cL_conkers 11 = .ok (.iconst 0, 1) := by decide +kernel
theorem dL_conkers_12 : decode cL_conkers 12 = .ok (.istore 5, 2) := by decide +kernel
theorem dL_conkers_14 : decode cL_conkers 14 = .ok (.iconst 0, 1) := by decide +kernel
theorem dL_conkers_15 : decode cL_conkers 15 = .ok (.istore 6, 2) := by decide +kernel
theorem dL_conkers_17 : decode cL_conkers 17 = .ok (.iconst 0, 1) := by decide +kernel
theorem dL_conkers_18 : decode cL_conkers 18 = .ok (.istore 7, 2) := by decide +kernel
theorem dL_conkers_20 : decode cL_conkers 20 = .ok (.iload 7, 2) := by decide +kernel
theorem dL_conkers_22 : decode cL_conkers 22 = .ok (.aload_n 0, 1) := by decide +kernel
theorem dL_conkers_23 : decode cL_conkers 23 = .ok (.iconst 0, 1) := by decide +kernel
theorem dL_conkers_24 : decode cL_conkers 24 = .ok (.invokevirtual 48, 3) := by decide +kernel
theorem dL_conkers_27 : decode cL_conkers 27 = .ok (.if_icmp .ge 329, 3) := by decide +kernel
theorem dL_conkers_30 : decode cL_conkers 30 = .ok (.aload_n 0, 1) := by decide +kernel
theorem dL_conkers_31 : decode cL_conkers 31 = .ok (.iload 7, 2) := by decide +kernel
theorem dL_conkers_33 : decode cL_conkers 33 = .ok (.bipush 6, 2) := by decide +kernel
theorem dL_conkers_35 : decode cL_conkers 35 = .ok (.invokevirtual 51, 3) := by decide +kernel
theorem dL_conkers_38 : decode cL_conkers 38 = .ok (.istore 8, 2) := by decide +kernel
theorem dL_conkers_40 : decode cL_conkers 40 = .ok (.aload_n 0, 1) := by decide +kernel
theorem dL_conkers_41 : decode cL_conkers 41 = .ok (.iload 7, 2) := by decide +kernel
theorem dL_conkers_43 : decode cL_conkers 43 = .ok (.bipush 7, 2) := by decide +kernel
theorem dL_conkers_45 : decode cL_conkers 45 = .ok (.invokevirtual 51, 3) := by decide +kernel
theorem dL_conkers_48 : decode cL_conkers 48 = .ok (.istore 9, 2) := by decide +kernel
theorem dL_conkers_50 : decode cL_conkers 50 = .ok (.aload_n 0, 1) := by decide +kernel
theorem dL_conkers_51 : decode cL_conkers 51 = .ok (.iload 7, 2) := by decide +kernel
theorem dL_conkers_53 : decode cL_conkers 53 = .ok (.iconst 5, 1) := by decide +kernel
theorem dL_conkers_54 : decode cL_conkers 54 = .ok (.invokevirtual 51, 3) := by decide +kernel
theorem dL_conkers_57 : decode cL_conkers 57 = .ok (.istore 10, 2) := by decide +kernel
theorem dL_conkers_59 : decode cL_conkers 59 = .ok (.aload_n 1, 1) := by decide +kernel
theorem dL_conkers_60 : decode cL_conkers 60 = .ok (.iload 8, 2) := by decide +kernel
theorem dL_conkers_62 : decode cL_conkers 62 = .ok (.dup2, 1) := by decide +kernel
