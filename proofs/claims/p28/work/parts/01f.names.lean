set_option maxRecDepth 20000 in
theorem ggX5_doubt_X4_hasConker : GoodIn wsX5_doubt wsX4_hasConker := goodIn_r _ [16, 17, 10, 7, 11, 61, 62, 63, 64, 65, 66, 67, 68, 69, 70, 71, 72, 73] (by decide +kernel) (by decide +kernel)
set_option maxRecDepth 20000 in
theorem gX5_doubt_X4_hasConker : GoodIn wsX5_doubt (wsV RX5 98 RX4 yX4_hasConker wsX4_hasConker) := goodIn_app (goodIn_of _ (by decide +kernel)) ggX5_doubt_X4_hasConker
set_option maxRecDepth 20000 in
theorem ggX5_doubt_X1_keep : GoodIn wsX5_doubt wsX1_keep := goodIn_r _ [22, 23, 24, 25, 26, 27, 21, 28, 29, 30, 31, 15, 32, 33, 34, 35, 36, 37, 38, 39, 40, 41, 42, 43, 44, 45, 46, 17, 47, 48, 74, 75, 61, 62, 63, 64, 65, 66, 67, 68, 69, 70, 71, 72, 73] (by decide +kernel) (by decide +kernel)
set_option maxRecDepth 20000 in
theorem gX5_doubt_X1_keep : GoodIn wsX5_doubt (wsV RX5 70 RX1 yX1_keep wsX1_keep) := goodIn_app (goodIn_of _ (by decide +kernel)) ggX5_doubt_X1_keep
set_option maxRecDepth 20000 in
theorem ggX5_doubt_X4_settleBoast : GoodIn wsX5_doubt wsX4_settleBoast := goodIn_r _ [52, 44, 43, 39, 38, 61, 62, 63, 64, 65, 66, 67, 68, 69, 70, 71, 72, 73] (by decide +kernel) (by decide +kernel)
set_option maxRecDepth 20000 in
theorem gX5_doubt_X4_settleBoast : GoodIn wsX5_doubt (wsV RX5 110 RX4 yX4_settleBoast wsX4_settleBoast) := goodIn_app (goodIn_of _ (by decide +kernel)) ggX5_doubt_X4_settleBoast
theorem dX5_doubt_0 : decode cX5_doubt 0 = .ok (.iload_n 1, 1) := by decide +kernel
theorem dX5_doubt_1 : decode cX5_doubt 1 = .ok (.invokestatic 54, 3) := by decide +kernel
theorem dX5_doubt_4 : decode cX5_doubt 4 = .ok (.ifCond .eq 14, 3) := by decide +kernel
theorem dX5_doubt_7 : decode cX5_doubt 7 = .ok (.aload_n 0, 1) := by decide +kernel
theorem dX5_doubt_8 : decode cX5_doubt 8 = .ok (.getfield 10, 3) := by decide +kernel
theorem dX5_doubt_11 : decode cX5_doubt 11 = .ok (.iload_n 2, 1) := by decide +kernel
theorem dX5_doubt_12 : decode cX5_doubt 12 = .ok (.invokevirtual 98, 3) := by decide +kernel
theorem dX5_doubt_15 : decode cX5_doubt 15 = .ok (.ifCond .ne 5, 3) := by decide +kernel
theorem dX5_doubt_18 : decode cX5_doubt 18 = .ok (.iconst (-1), 1) := by decide +kernel
theorem dX5_doubt_19 : decode cX5_doubt 19 = .ok (.ireturn, 1) := by decide +kernel
theorem dX5_doubt_20 : decode cX5_doubt 20 = .ok (.aload_n 0, 1) := by decide +kernel
theorem dX5_doubt_21 : decode cX5_doubt 21 = .ok (.getfield 10, 3) := by decide +kernel
theorem dX5_doubt_24 : decode cX5_doubt 24 = .ok (.getfield 107, 3) := by decide +kernel
theorem dX5_doubt_27 : decode cX5_doubt 27 = .ok (.iload_n 2, 1) := by decide +kernel
theorem dX5_doubt_28 : decode cX5_doubt 28 = .ok (.iaload, 1) := by decide +kernel
theorem dX5_doubt_29 : decode cX5_doubt 29 = .ok (.iload_n 1, 1) := by decide +kernel
theorem dX5_doubt_30 : decode cX5_doubt 30 = .ok (.if_icmp .ne 6, 3) := by decide +kernel
theorem dX5_doubt_33 : decode cX5_doubt 33 = .ok (.bipush (-2), 2) := by decide +kernel
theorem dX5_doubt_35 : decode cX5_doubt 35 = .ok (.ireturn, 1) := by decide +kernel
theorem dX5_doubt_36 : decode cX5_doubt 36 = .ok (.aload_n 0, 1) := by decide +kernel
theorem dX5_doubt_37 : decode cX5_doubt 37 = .ok (.getfield 10, 3) := by decide +kernel
theorem dX5_doubt_40 : decode cX5_doubt 40 = .ok (.getfield 104, 3) := by decide +kernel
theorem dX5_doubt_43 : decode cX5_doubt 43 = .ok (.iload_n 2, 1) := by decide +kernel
theorem dX5_doubt_44 : decode cX5_doubt 44 = .ok (.iaload, 1) := by decide +kernel
theorem dX5_doubt_45 : decode cX5_doubt 45 = .ok (.bipush (-5), 2) := by decide +kernel
theorem dX5_doubt_47 : decode cX5_doubt 47 = .ok (.if_icmp .ne 6, 3) := by decide +kernel
theorem dX5_doubt_50 : decode cX5_doubt 50 = .ok (.bipush (-4), 2) := by decide +kernel
theorem dX5_doubt_52 : decode cX5_doubt 52 = .ok (.ireturn, 1) := by decide +kernel
theorem dX5_doubt_53 : decode cX5_doubt 53 = .ok (.aload_n 0, 1) := by decide +kernel
theorem dX5_doubt_54 : decode cX5_doubt 54 = .ok (.getfield 25, 3) := by decide +kernel
theorem dX5_doubt_57 : decode cX5_doubt 57 = .ok (.aload_n 0, 1) := by decide +kernel
theorem dX5_doubt_58 : decode cX5_doubt 58 = .ok (.getfield 10, 3) := by decide +kernel
theorem dX5_doubt_61 : decode cX5_doubt 61 = .ok (.invokevirtual 70, 3) := by decide +kernel
theorem dX5_doubt_64 : decode cX5_doubt 64 = .ok (.aload_n 0, 1) := by decide +kernel
theorem dX5_doubt_65 : decode cX5_doubt 65 = .ok (.getfield 10, 3) := by decide +kernel
theorem dX5_doubt_68 : decode cX5_doubt 68 = .ok (.iload_n 1, 1) := by decide +kernel
theorem dX5_doubt_69 : decode cX5_doubt 69 = .ok (.iload_n 2, 1) := by decide +kernel
theorem dX5_doubt_70 : decode cX5_doubt 70 = .ok (.invokevirtual 110, 3) := by decide +kernel
theorem dX5_doubt_73 : decode cX5_doubt 73 = .ok (.ireturn, 1) := by decide +kernel
set_option maxRecDepth 20000 in
theorem ggX5_bout_X4_boutError : GoodIn wsX5_bout wsX4_boutError := goodIn_r _ [8, 9, 10, 11, 12, 13, 14, 15, 7, 16, 17, 18, 19, 20, 21, 22, 23, 24, 25, 26, 27, 122, 123, 124, 125, 126, 127, 128, 129, 130, 131, 132, 133, 134] (by decide +kernel) (by decide +kernel)
set_option maxRecDepth 20000 in
theorem gX5_bout_X4_boutError : GoodIn wsX5_bout (wsV RX5 113 RX4 yX4_boutError wsX4_boutError) := goodIn_app (goodIn_of _ (by decide +kernel)) ggX5_bout_X4_boutError
set_option maxRecDepth 20000 in
theorem ggX5_bout_X1_keep : GoodIn wsX5_bout wsX1_keep := goodIn_r _ [32, 33, 34, 35, 36, 37, 31, 38, 39, 40, 41, 7, 42, 43, 44, 45, 46, 47, 48, 17, 49, 50, 51, 52, 53, 27, 54, 22, 55, 56, 135, 136, 122, 123, 124, 125, 126, 127, 128, 129, 130, 131, 132, 133, 134] (by decide +kernel) (by decide +kernel)
set_option maxRecDepth 20000 in
theorem gX5_bout_X1_keep : GoodIn wsX5_bout (wsV RX5 70 RX1 yX1_keep wsX1_keep) := goodIn_app (goodIn_of _ (by decide +kernel)) ggX5_bout_X1_keep
set_option maxRecDepth 20000 in
theorem ggX5_bout_X0_begin : GoodIn wsX5_bout wsX0_begin := goodIn_r _ [61, 62, 137] (by decide +kernel) (by decide +kernel)
set_option maxRecDepth 20000 in
theorem gX5_bout_X0_begin : GoodIn wsX5_bout (wsV RX5 116 RX0 yX0_begin wsX0_begin) := goodIn_app (goodIn_of _ (by decide +kernel)) ggX5_bout_X0_begin
set_option maxRecDepth 20000 in
theorem ggX5_bout_X4_fight : GoodIn wsX5_bout wsX4_fight := goodIn_r _ [66, 67, 68, 69, 70, 71, 72, 73, 23, 24, 25, 7, 26, 27, 74, 75, 76, 60, 77, 78, 79, 80, 81, 62, 82, 83, 84, 85, 86, 49, 56, 50, 51, 87, 88, 89, 90, 91, 92, 93, 94, 95, 96, 97, 55, 98, 99, 100, 101, 52, 53, 102, 103, 104, 105, 54, 106, 107, 108, 109, 110, 111, 112, 113, 122, 123, 124, 125, 126, 127, 128, 129, 130, 131, 132, 133, 134, 137] (by decide +kernel) (by decide +kernel)
set_option maxRecDepth 20000 in
theorem gX5_bout_X4_fight : GoodIn wsX5_bout (wsV RX5 120 RX4 yX4_fight wsX4_fight) := goodIn_app (goodIn_of _ (by decide +kernel)) ggX5_bout_X4_fight
theorem dX5_bout_0 : decode cX5_bout 0 = .ok (.aload_n 0, 1) := by decide +kernel
theorem dX5_bout_1 : decode cX5_bout 1 = .ok (.getfield 10, 3) := by decide +kernel
theorem dX5_bout_4 : decode cX5_bout 4 = .ok (.iload_n 1, 1) := by decide +kernel
theorem dX5_bout_5 : decode cX5_bout 5 = .ok (.iload_n 2, 1) := by decide +kernel
theorem dX5_bout_6 : decode cX5_bout 6 = .ok (.iload_n 3, 1) := by decide +kernel
theorem dX5_bout_7 : decode cX5_bout 7 = .ok (.invokevirtual 113, 3) := by decide +kernel
theorem dX5_bout_10 : decode cX5_bout 10 = .ok (.istore 4, 2) := by decide +kernel
theorem dX5_bout_12 : decode cX5_bout 12 = .ok (.iload 4, 2) := by decide +kernel
theorem dX5_bout_14 : decode cX5_bout 14 = .ok (.ifCond .eq 6, 3) := by decide +kernel
theorem dX5_bout_17 : decode cX5_bout 17 = .ok (.iload 4, 2) := by decide +kernel
theorem dX5_bout_19 : decode cX5_bout 19 = .ok (.ireturn, 1) := by decide +kernel
theorem dX5_bout_20 : decode cX5_bout 20 = .ok (.aload_n 0, 1) := by decide +kernel
theorem dX5_bout_21 : decode cX5_bout 21 = .ok (.getfield 25, 3) := by decide +kernel
theorem dX5_bout_24 : decode cX5_bout 24 = .ok (.aload_n 0, 1) := by decide +kernel
theorem dX5_bout_25 : decode cX5_bout 25 = .ok (.getfield 10, 3) := by decide +kernel
theorem dX5_bout_28 : decode cX5_bout 28 = .ok (.invokevirtual 70, 3) := by decide +kernel
theorem dX5_bout_31 : decode cX5_bout 31 = .ok (.aload_n 0, 1) := by decide +kernel
theorem dX5_bout_32 : decode cX5_bout 32 = .ok (.getfield 39, 3) := by decide +kernel
theorem dX5_bout_35 : decode cX5_bout 35 = .ok (.iload_n 3, 1) := by decide +kernel
theorem dX5_bout_36 : decode cX5_bout 36 = .ok (.invokevirtual 116, 3) := by decide +kernel
theorem dX5_bout_39 : decode cX5_bout 39 = .ok (.aload_n 0, 1) := by decide +kernel
theorem dX5_bout_40 : decode cX5_bout 40 = .ok (.getfield 10, 3) := by decide +kernel
theorem dX5_bout_43 : decode cX5_bout 43 = .ok (.iload_n 1, 1) := by decide +kernel
theorem dX5_bout_44 : decode cX5_bout 44 = .ok (.iload_n 2, 1) := by decide +kernel
theorem dX5_bout_45 : decode cX5_bout 45 = .ok (.aload_n 0, 1) := by decide +kernel
theorem dX5_bout_46 : decode cX5_bout 46 = .ok (.getfield 39, 3) := by decide +kernel
theorem dX5_bout_49 : decode cX5_bout 49 = .ok (.invokevirtual 120, 3) := by decide +kernel
theorem dX5_bout_52 : decode cX5_bout 52 = .ok (.ireturn, 1) := by decide +kernel
set_option maxRecDepth 20000 in
theorem ggX5_round_X5_isWithin : GoodIn wsX5_round wsX5_isWithin := goodIn_r _ [10] (by decide +kernel) (by decide +kernel)
set_option maxRecDepth 20000 in
theorem gX5_round_X5_isWithin : GoodIn wsX5_round (va_wsS RX5 58 yX5_isWithin wsX5_isWithin) := goodIn_app (goodIn_of _ (by decide +kernel)) ggX5_round_X5_isWithin
set_option maxRecDepth 20000 in
theorem ggX5_round_X1_keep : GoodIn wsX5_round wsX1_keep := goodIn_r _ [15, 16, 17, 18, 19, 20, 14, 21, 22, 23, 24, 25, 26, 27, 28, 29, 30, 31, 32, 33, 34, 35, 36, 37, 38, 39, 40, 41, 42, 43, 137, 138, 139, 140, 141, 142, 143, 144, 145, 146, 147, 148, 149, 150, 151] (by decide +kernel) (by decide +kernel)
set_option maxRecDepth 20000 in
theorem gX5_round_X1_keep : GoodIn wsX5_round (wsV RX5 70 RX1 yX1_keep wsX1_keep) := goodIn_app (goodIn_of _ (by decide +kernel)) ggX5_round_X1_keep
set_option maxRecDepth 20000 in
theorem ggX5_round_X0_begin : GoodIn wsX5_round wsX0_begin := goodIn_r _ [48, 49, 152] (by decide +kernel) (by decide +kernel)
set_option maxRecDepth 20000 in
theorem gX5_round_X0_begin : GoodIn wsX5_round (wsV RX5 116 RX0 yX0_begin wsX0_begin) := goodIn_app (goodIn_of _ (by decide +kernel)) ggX5_round_X0_begin
set_option maxRecDepth 20000 in
theorem ggX5_round_X2_lineUp : GoodIn wsX5_round wsX2_lineUp := goodIn_r _ [54, 55, 56, 57, 58, 25, 59, 41, 39, 33, 37, 60, 61, 62, 53, 63, 64, 65, 66, 135, 136, 139, 140, 141, 142, 143, 144, 145, 146, 147, 148, 149, 150, 151] (by decide +kernel) (by decide +kernel)
set_option maxRecDepth 20000 in
theorem gX5_round_X2_lineUp : GoodIn wsX5_round (wsV RX5 125 RX2 yX2_lineUp wsX2_lineUp) := goodIn_app (goodIn_of _ (by decide +kernel)) ggX5_round_X2_lineUp
set_option maxRecDepth 20000 in
theorem ggX5_round_X0_next : GoodIn wsX5_round wsX0_next := goodIn_r _ [70, 49, 71, 152] (by decide +kernel) (by decide +kernel)
set_option maxRecDepth 20000 in
theorem gX5_round_X0_next : GoodIn wsX5_round (wsV RX5 131 RX0 yX0_next wsX0_next) := goodIn_app (goodIn_of _ (by decide +kernel)) ggX5_round_X0_next
set_option maxRecDepth 20000 in
theorem ggX5_round_X2_takeOut : GoodIn wsX5_round wsX2_takeOut := goodIn_r _ [75, 66, 55, 135, 136] (by decide +kernel) (by decide +kernel)
set_option maxRecDepth 20000 in
theorem gX5_round_X2_takeOut : GoodIn wsX5_round (wsV RX5 135 RX2 yX2_takeOut wsX2_takeOut) := goodIn_app (goodIn_of _ (by decide +kernel)) ggX5_round_X2_takeOut
set_option maxRecDepth 20000 in
theorem ggX5_round_X4_fight : GoodIn wsX5_round wsX4_fight := goodIn_r _ [79, 80, 81, 82, 83, 84, 85, 86, 87, 88, 89, 25, 90, 39, 91, 92, 93, 47, 94, 95, 68, 69, 70, 49, 71, 96, 97, 98, 99, 34, 43, 35, 36, 100, 101, 102, 103, 104, 105, 106, 107, 108, 109, 110, 42, 111, 112, 113, 114, 37, 38, 115, 116, 117, 118, 40, 119, 120, 121, 122, 123, 124, 125, 126, 139, 140, 141, 142, 143, 144, 145, 146, 147, 148, 149, 150, 151, 152] (by decide +kernel) (by decide +kernel)
set_option maxRecDepth 20000 in
theorem gX5_round_X4_fight : GoodIn wsX5_round (wsV RX5 120 RX4 yX4_fight wsX4_fight) := goodIn_app (goodIn_of _ (by decide +kernel)) ggX5_round_X4_fight
theorem dX5_round_0 : decode cX5_round 0 = .ok (.iload_n 1, 1) := by decide +kernel
theorem dX5_round_1 : decode cX5_round 1 = .ok (.iconst 0, 1) := by decide +kernel
theorem dX5_round_2 : decode cX5_round 2 = .ok (.ldc 124, 2) := by decide +kernel
theorem dX5_round_4 : decode cX5_round 4 = .ok (.invokestatic 58, 3) := by decide +kernel
theorem dX5_round_7 : decode cX5_round 7 = .ok (.ifCond .ne 6, 3) := by decide +kernel
theorem dX5_round_10 : decode cX5_round 10 = .ok (.bipush (-2), 2) := by decide +kernel
theorem dX5_round_12 : decode cX5_round 12 = .ok (.ireturn, 1) := by decide +kernel
theorem dX5_round_13 : decode cX5_round 13 = .ok (.aload_n 0, 1) := by decide +kernel
theorem dX5_round_14 : decode cX5_round 14 = .ok (.getfield 25, 3) := by decide +kernel
theorem dX5_round_17 : decode cX5_round 17 = .ok (.aload_n 0, 1) := by decide +kernel
theorem dX5_round_18 : decode cX5_round 18 = .ok (.getfield 10, 3) := by decide +kernel
theorem dX5_round_21 : decode cX5_round 21 = .ok (.invokevirtual 70, 3) := by decide +kernel
theorem dX5_round_24 : decode cX5_round 24 = .ok (.aload_n 0, 1) := by decide +kernel
theorem dX5_round_25 : decode cX5_round 25 = .ok (.getfield 39, 3) := by decide +kernel
theorem dX5_round_28 : decode cX5_round 28 = .ok (.iload_n 1, 1) := by decide +kernel
theorem dX5_round_29 : decode cX5_round 29 = .ok (.invokevirtual 116, 3) := by decide +kernel
theorem dX5_round_32 : decode cX5_round 32 = .ok (.aload_n 0, 1) := by decide +kernel
theorem dX5_round_33 : decode cX5_round 33 = .ok (.getfield 46, 3) := by decide +kernel
theorem dX5_round_36 : decode cX5_round 36 = .ok (.aload_n 0, 1) := by decide +kernel
theorem dX5_round_37 : decode cX5_round 37 = .ok (.getfield 10, 3) := by decide +kernel
theorem dX5_round_40 : decode cX5_round 40 = .ok (.invokevirtual 125, 3) := by decide +kernel
theorem dX5_round_43 : decode cX5_round 43 = .ok (.iconst 0, 1) := by decide +kernel
theorem dX5_round_44 : decode cX5_round 44 = .ok (.istore_n 2, 1) := by decide +kernel
theorem dX5_round_45 : decode cX5_round 45 = .ok (.iload_n 2, 1) := by decide +kernel
theorem dX5_round_46 : decode cX5_round 46 = .ok (.bipush 6, 2) := by decide +kernel
theorem dX5_round_48 : decode cX5_round 48 = .ok (.if_icmp .ge 72, 3) := by decide +kernel
theorem dX5_round_51 : decode cX5_round 51 = .ok (.aload_n 0, 1) := by decide +kernel
theorem dX5_round_52 : decode cX5_round 52 = .ok (.getfield 46, 3) := by decide +kernel
theorem dX5_round_55 : decode cX5_round 55 = .ok (.getfield 128, 3) := by decide +kernel
theorem dX5_round_58 : decode cX5_round 58 = .ok (.iconst 2, 1) := by decide +kernel
theorem dX5_round_59 : decode cX5_round 59 = .ok (.if_icmp .lt 61, 3) := by decide +kernel
theorem dX5_round_62 : decode cX5_round 62 = .ok (.aload_n 0, 1) := by decide +kernel
theorem dX5_round_63 : decode cX5_round 63 = .ok (.getfield 46, 3) := by decide +kernel
theorem dX5_round_66 : decode cX5_round 66 = .ok (.iconst 1, 1) := by decide +kernel
theorem dX5_round_67 : decode cX5_round 67 = .ok (.aload_n 0, 1) := by decide +kernel
theorem dX5_round_68 : decode cX5_round 68 = .ok (.getfield 39, 3) := by decide +kernel
theorem dX5_round_71 : decode cX5_round 71 = .ok (.invokevirtual 131, 3) := by decide +kernel
theorem dX5_round_74 : decode cX5_round 74 = .ok (.aload_n 0, 1) := by decide +kernel
theorem dX5_round_75 : decode cX5_round 75 = .ok (.getfield 46, 3) := by decide +kernel
theorem dX5_round_78 : decode cX5_round 78 = .ok (.getfield 128, 3) := by decide +kernel
theorem dX5_round_81 : decode cX5_round 81 = .ok (.iconst 1, 1) := by decide +kernel
theorem dX5_round_82 : decode cX5_round 82 = .ok (.isub, 1) := by decide +kernel
theorem dX5_round_83 : decode cX5_round 83 = .ok (.irem, 1) := by decide +kernel
theorem dX5_round_84 : decode cX5_round 84 = .ok (.iadd, 1) := by decide +kernel
theorem dX5_round_85 : decode cX5_round 85 = .ok (.invokevirtual 135, 3) := by decide +kernel
theorem dX5_round_88 : decode cX5_round 88 = .ok (.istore_n 3, 1) := by decide +kernel
theorem dX5_round_89 : decode cX5_round 89 = .ok (.aload_n 0, 1) := by decide +kernel
theorem dX5_round_90 : decode cX5_round 90 = .ok (.getfield 46, 3) := by decide +kernel
theorem dX5_round_93 : decode cX5_round 93 = .ok (.iconst 0, 1) := by decide +kernel
theorem dX5_round_94 : decode cX5_round 94 = .ok (.invokevirtual 135, 3) := by decide +kernel
theorem dX5_round_97 : decode cX5_round 97 = .ok (.istore 4, 2) := by decide +kernel
theorem dX5_round_99 : decode cX5_round 99 = .ok (.aload_n 0, 1) := by decide +kernel
theorem dX5_round_100 : decode cX5_round 100 = .ok (.getfield 10, 3) := by decide +kernel
theorem dX5_round_103 : decode cX5_round 103 = .ok (.iload 4, 2) := by decide +kernel
theorem dX5_round_105 : decode cX5_round 105 = .ok (.iload_n 3, 1) := by decide +kernel
theorem dX5_round_106 : decode cX5_round 106 = .ok (.aload_n 0, 1) := by decide +kernel
theorem dX5_round_107 : decode cX5_round 107 = .ok (.getfield 39, 3) := by decide +kernel
theorem dX5_round_110 : decode cX5_round 110 = .ok (.invokevirtual 120, 3) := by decide +kernel
theorem dX5_round_113 : decode cX5_round 113 = .ok (.pop, 1) := by decide +kernel
theorem dX5_round_114 : decode cX5_round 114 = .ok (.iinc 2 1, 3) := by decide +kernel
theorem dX5_round_117 : decode cX5_round 117 = .ok (.goto (-72), 3) := by decide +kernel
theorem dX5_round_120 : decode cX5_round 120 = .ok (.iload_n 2, 1) := by decide +kernel
theorem dX5_round_121 : decode cX5_round 121 = .ok (.ireturn, 1) := by decide +kernel
set_option maxRecDepth 20000 in
theorem ggX5_undo_X1_bringBack : GoodIn wsX5_undo wsX1_bringBack := goodIn_r _ [7, 8, 9, 10, 11, 12, 13, 14, 15, 16, 17, 18, 19, 20, 21, 22, 23, 24, 25, 26, 27, 28, 29, 30, 31, 40, 41, 42, 43, 44, 45, 46, 47, 48, 49, 50, 51, 52, 53, 54] (by decide +kernel) (by decide +kernel)
set_option maxRecDepth 20000 in
theorem gX5_undo_X1_bringBack : GoodIn wsX5_undo (wsV RX5 160 RX1 yX1_bringBack wsX1_bringBack) := goodIn_app (goodIn_of _ (by decide +kernel)) ggX5_undo_X1_bringBack
theorem dX5_undo_0 : decode cX5_undo 0 = .ok (.aload_n 0, 1) := by decide +kernel
theorem dX5_undo_1 : decode cX5_undo 1 = .ok (.getfield 25, 3) := by decide +kernel
theorem dX5_undo_4 : decode cX5_undo 4 = .ok (.aload_n 0, 1) := by decide +kernel
theorem dX5_undo_5 : decode cX5_undo 5 = .ok (.getfield 10, 3) := by decide +kernel
theorem dX5_undo_8 : decode cX5_undo 8 = .ok (.invokevirtual 160, 3) := by decide +kernel
theorem dX5_undo_11 : decode cX5_undo 11 = .ok (.ireturn, 1) := by decide +kernel
set_option maxRecDepth 20000 in
theorem ggX5_conker_X4_hasConker : GoodIn wsX5_conker wsX4_hasConker := goodIn_r _ [14, 15, 16, 17, 18, 32, 33, 34, 35, 36, 37, 38, 39, 40, 41, 42, 43, 44] (by decide +kernel) (by decide +kernel)
set_option maxRecDepth 20000 in
theorem gX5_conker_X4_hasConker : GoodIn wsX5_conker (wsV RX5 98 RX4 yX4_hasConker wsX4_hasConker) := goodIn_app (goodIn_of _ (by decide +kernel)) ggX5_conker_X4_hasConker
set_option maxRecDepth 20000 in
theorem ggX5_conker_X4_conkersSmashedBy : GoodIn wsX5_conker wsX4_conkersSmashedBy := goodIn_r _ [22, 15, 23, 32, 33, 34, 35, 36, 37, 38, 39, 40, 41, 42, 43, 44] (by decide +kernel) (by decide +kernel)
set_option maxRecDepth 20000 in
theorem gX5_conker_X4_conkersSmashedBy : GoodIn wsX5_conker (wsV RX5 185 RX4 yX4_conkersSmashedBy wsX4_conkersSmashedBy) := goodIn_app (goodIn_of _ (by decide +kernel)) ggX5_conker_X4_conkersSmashedBy
theorem dX5_conker_0 : decode cX5_conker 0 = .ok (.aload_n 0, 1) := by decide +kernel
theorem dX5_conker_1 : decode cX5_conker 1 = .ok (.getfield 10, 3) := by decide +kernel
theorem dX5_conker_4 : decode cX5_conker 4 = .ok (.iload_n 1, 1) := by decide +kernel
theorem dX5_conker_5 : decode cX5_conker 5 = .ok (.invokevirtual 98, 3) := by decide +kernel
theorem dX5_conker_8 : decode cX5_conker 8 = .ok (.ifCond .ne 5, 3) := by decide +kernel
theorem dX5_conker_11 : decode cX5_conker 11 = .ok (.iconst (-1), 1) := by decide +kernel
theorem dX5_conker_12 : decode cX5_conker 12 = .ok (.ireturn, 1) := by decide +kernel
theorem dX5_conker_13 : decode cX5_conker 13 = .ok (.iload_n 2, 1) := by decide +kernel
theorem dX5_conker_14 : decode cX5_conker 14 = .ok (.tableswitch 139 0 8 #[50, 60, 70, 80, 90, 100, 110, 120, 130], 50) := by decide +kernel
theorem dX5_conker_64 : decode cX5_conker 64 = .ok (.aload_n 0, 1) := by decide +kernel
theorem dX5_conker_65 : decode cX5_conker 65 = .ok (.getfield 10, 3) := by decide +kernel
theorem dX5_conker_68 : decode cX5_conker 68 = .ok (.getfield 107, 3) := by decide +kernel
theorem dX5_conker_71 : decode cX5_conker 71 = .ok (.iload_n 1, 1) := by decide +kernel
theorem dX5_conker_72 : decode cX5_conker 72 = .ok (.iaload, 1) := by decide +kernel
theorem dX5_conker_73 : decode cX5_conker 73 = .ok (.ireturn, 1) := by decide +kernel
theorem dX5_conker_74 : decode cX5_conker 74 = .ok (.aload_n 0, 1) := by decide +kernel
theorem dX5_conker_75 : decode cX5_conker 75 = .ok (.getfield 10, 3) := by decide +kernel
theorem dX5_conker_78 : decode cX5_conker 78 = .ok (.getfield 170, 3) := by decide +kernel
theorem dX5_conker_81 : decode cX5_conker 81 = .ok (.iload_n 1, 1) := by decide +kernel
theorem dX5_conker_82 : decode cX5_conker 82 = .ok (.iaload, 1) := by decide +kernel
theorem dX5_conker_83 : decode cX5_conker 83 = .ok (.ireturn, 1) := by decide +kernel
theorem dX5_conker_84 : decode cX5_conker 84 = .ok (.aload_n 0, 1) := by decide +kernel
theorem dX5_conker_85 : decode cX5_conker 85 = .ok (.getfield 10, 3) := by decide +kernel
theorem dX5_conker_88 : decode cX5_conker 88 = .ok (.getfield 173, 3) := by decide +kernel
theorem dX5_conker_91 : decode cX5_conker 91 = .ok (.iload_n 1, 1) := by decide +kernel
theorem dX5_conker_92 : decode cX5_conker 92 = .ok (.iaload, 1) := by decide +kernel
theorem dX5_conker_93 : decode cX5_conker 93 = .ok (.ireturn, 1) := by decide +kernel
theorem dX5_conker_94 : decode cX5_conker 94 = .ok (.aload_n 0, 1) := by decide +kernel
theorem dX5_conker_95 : decode cX5_conker 95 = .ok (.getfield 10, 3) := by decide +kernel
theorem dX5_conker_98 : decode cX5_conker 98 = .ok (.getfield 176, 3) := by decide +kernel
theorem dX5_conker_101 : decode cX5_conker 101 = .ok (.iload_n 1, 1) := by decide +kernel
theorem dX5_conker_102 : decode cX5_conker 102 = .ok (.iaload, 1) := by decide +kernel
theorem dX5_conker_103 : decode cX5_conker 103 = .ok (.ireturn, 1) := by decide +kernel
theorem dX5_conker_104 : decode cX5_conker 104 = .ok (.aload_n 0, 1) := by decide +kernel
theorem dX5_conker_105 : decode cX5_conker 105 = .ok (.getfield 10, 3) := by decide +kernel
theorem dX5_conker_108 : decode cX5_conker 108 = .ok (.getfield 179, 3) := by decide +kernel
theorem dX5_conker_111 : decode cX5_conker 111 = .ok (.iload_n 1, 1) := by decide +kernel
theorem dX5_conker_112 : decode cX5_conker 112 = .ok (.iaload, 1) := by decide +kernel
theorem dX5_conker_113 : decode cX5_conker 113 = .ok (.ireturn, 1) := by decide +kernel
theorem dX5_conker_114 : decode cX5_conker 114 = .ok (.aload_n 0, 1) := by decide +kernel
theorem dX5_conker_115 : decode cX5_conker 115 = .ok (.getfield 10, 3) := by decide +kernel
theorem dX5_conker_118 : decode cX5_conker 118 = .ok (.getfield 104, 3) := by decide +kernel
theorem dX5_conker_121 : decode cX5_conker 121 = .ok (.iload_n 1, 1) := by decide +kernel
theorem dX5_conker_122 : decode cX5_conker 122 = .ok (.iaload, 1) := by decide +kernel
theorem dX5_conker_123 : decode cX5_conker 123 = .ok (.ireturn, 1) := by decide +kernel
theorem dX5_conker_124 : decode cX5_conker 124 = .ok (.aload_n 0, 1) := by decide +kernel
theorem dX5_conker_125 : decode cX5_conker 125 = .ok (.getfield 10, 3) := by decide +kernel
theorem dX5_conker_128 : decode cX5_conker 128 = .ok (.getfield 101, 3) := by decide +kernel
theorem dX5_conker_131 : decode cX5_conker 131 = .ok (.iload_n 1, 1) := by decide +kernel
theorem dX5_conker_132 : decode cX5_conker 132 = .ok (.iaload, 1) := by decide +kernel
theorem dX5_conker_133 : decode cX5_conker 133 = .ok (.ireturn, 1) := by decide +kernel
theorem dX5_conker_134 : decode cX5_conker 134 = .ok (.aload_n 0, 1) := by decide +kernel
theorem dX5_conker_135 : decode cX5_conker 135 = .ok (.getfield 10, 3) := by decide +kernel
theorem dX5_conker_138 : decode cX5_conker 138 = .ok (.getfield 182, 3) := by decide +kernel
theorem dX5_conker_141 : decode cX5_conker 141 = .ok (.iload_n 1, 1) := by decide +kernel
theorem dX5_conker_142 : decode cX5_conker 142 = .ok (.iaload, 1) := by decide +kernel
theorem dX5_conker_143 : decode cX5_conker 143 = .ok (.ireturn, 1) := by decide +kernel
theorem dX5_conker_144 : decode cX5_conker 144 = .ok (.aload_n 0, 1) := by decide +kernel
theorem dX5_conker_145 : decode cX5_conker 145 = .ok (.getfield 10, 3) := by decide +kernel
theorem dX5_conker_148 : decode cX5_conker 148 = .ok (.iload_n 1, 1) := by decide +kernel
theorem dX5_conker_149 : decode cX5_conker 149 = .ok (.invokevirtual 185, 3) := by decide +kernel
theorem dX5_conker_152 : decode cX5_conker 152 = .ok (.ireturn, 1) := by decide +kernel
theorem dX5_conker_153 : decode cX5_conker 153 = .ok (.bipush (-2), 2) := by decide +kernel
theorem dX5_conker_155 : decode cX5_conker 155 = .ok (.ireturn, 1) := by decide +kernel
set_option maxRecDepth 20000 in
theorem ggX5_player_X5_isPlayer : GoodIn wsX5_player wsX5_isPlayer := goodIn_r _ [7, 8, 9, 6, 10] (by decide +kernel) (by decide +kernel)
set_option maxRecDepth 20000 in
theorem gX5_player_X5_isPlayer : GoodIn wsX5_player (va_wsS RX5 54 yX5_isPlayer wsX5_isPlayer) := goodIn_app (goodIn_of _ (by decide +kernel)) ggX5_player_X5_isPlayer
set_option maxRecDepth 20000 in
theorem ggX5_player_X4_conkersBeing : GoodIn wsX5_player wsX4_conkersBeing := goodIn_r _ [15, 16, 17, 18, 19, 20, 14, 21, 22, 40, 41, 42, 43, 44, 45, 46, 47, 48, 49, 50, 51, 52] (by decide +kernel) (by decide +kernel)
set_option maxRecDepth 20000 in
theorem gX5_player_X4_conkersBeing : GoodIn wsX5_player (wsV RX5 167 RX4 yX4_conkersBeing wsX4_conkersBeing) := goodIn_app (goodIn_of _ (by decide +kernel)) ggX5_player_X4_conkersBeing
set_option maxRecDepth 20000 in
theorem ggX5_player_X4_victoriesOf : GoodIn wsX5_player wsX4_victoriesOf := goodIn_r _ [26, 16, 27, 18, 19, 20, 14, 21, 22, 40, 41, 42, 43, 44, 45, 46, 47, 48, 49, 50, 51, 52] (by decide +kernel) (by decide +kernel)
set_option maxRecDepth 20000 in
theorem gX5_player_X4_victoriesOf : GoodIn wsX5_player (wsV RX5 191 RX4 yX4_victoriesOf wsX4_victoriesOf) := goodIn_app (goodIn_of _ (by decide +kernel)) ggX5_player_X4_victoriesOf
set_option maxRecDepth 20000 in
theorem ggX5_player_X4_conkerToSend : GoodIn wsX5_player wsX4_conkerToSend := goodIn_r _ [31, 16, 17, 22, 27, 40, 41, 42, 43, 44, 45, 46, 47, 48, 49, 50, 51, 52] (by decide +kernel) (by decide +kernel)
set_option maxRecDepth 20000 in
theorem gX5_player_X4_conkerToSend : GoodIn wsX5_player (wsV RX5 194 RX4 yX4_conkerToSend wsX4_conkerToSend) := goodIn_app (goodIn_of _ (by decide +kernel)) ggX5_player_X4_conkerToSend
theorem dX5_player_0 : decode cX5_player 0 = .ok (.iload_n 1, 1) := by decide +kernel
theorem dX5_player_1 : decode cX5_player 1 = .ok (.invokestatic 54, 3) := by decide +kernel
theorem dX5_player_4 : decode cX5_player 4 = .ok (.ifCond .ne 5, 3) := by decide +kernel
theorem dX5_player_7 : decode cX5_player 7 = .ok (.iconst (-1), 1) := by decide +kernel
theorem dX5_player_8 : decode cX5_player 8 = .ok (.ireturn, 1) := by decide +kernel
theorem dX5_player_9 : decode cX5_player 9 = .ok (.iload_n 2, 1) := by decide +kernel
theorem dX5_player_10 : decode cX5_player 10 = .ok (.tableswitch 110 0 6 #[42, 52, 62, 72, 82, 92, 101], 42) := by decide +kernel
theorem dX5_player_52 : decode cX5_player 52 = .ok (.aload_n 0, 1) := by decide +kernel
theorem dX5_player_53 : decode cX5_player 53 = .ok (.getfield 10, 3) := by decide +kernel
theorem dX5_player_56 : decode cX5_player 56 = .ok (.getfield 62, 3) := by decide +kernel
theorem dX5_player_59 : decode cX5_player 59 = .ok (.iload_n 1, 1) := by decide +kernel
theorem dX5_player_60 : decode cX5_player 60 = .ok (.iaload, 1) := by decide +kernel
theorem dX5_player_61 : decode cX5_player 61 = .ok (.ireturn, 1) := by decide +kernel
theorem dX5_player_62 : decode cX5_player 62 = .ok (.aload_n 0, 1) := by decide +kernel
theorem dX5_player_63 : decode cX5_player 63 = .ok (.getfield 10, 3) := by decide +kernel
theorem dX5_player_66 : decode cX5_player 66 = .ok (.getfield 188, 3) := by decide +kernel
theorem dX5_player_69 : decode cX5_player 69 = .ok (.iload_n 1, 1) := by decide +kernel
theorem dX5_player_70 : decode cX5_player 70 = .ok (.iaload, 1) := by decide +kernel
theorem dX5_player_71 : decode cX5_player 71 = .ok (.ireturn, 1) := by decide +kernel
theorem dX5_player_72 : decode cX5_player 72 = .ok (.aload_n 0, 1) := by decide +kernel
theorem dX5_player_73 : decode cX5_player 73 = .ok (.getfield 10, 3) := by decide +kernel
theorem dX5_player_76 : decode cX5_player 76 = .ok (.iconst 0, 1) := by decide +kernel
theorem dX5_player_77 : decode cX5_player 77 = .ok (.iload_n 1, 1) := by decide +kernel
theorem dX5_player_78 : decode cX5_player 78 = .ok (.invokevirtual 167, 3) := by decide +kernel
theorem dX5_player_81 : decode cX5_player 81 = .ok (.ireturn, 1) := by decide +kernel
theorem dX5_player_82 : decode cX5_player 82 = .ok (.aload_n 0, 1) := by decide +kernel
theorem dX5_player_83 : decode cX5_player 83 = .ok (.getfield 10, 3) := by decide +kernel
theorem dX5_player_86 : decode cX5_player 86 = .ok (.iconst 1, 1) := by decide +kernel
theorem dX5_player_87 : decode cX5_player 87 = .ok (.iload_n 1, 1) := by decide +kernel
theorem dX5_player_88 : decode cX5_player 88 = .ok (.invokevirtual 167, 3) := by decide +kernel
theorem dX5_player_91 : decode cX5_player 91 = .ok (.ireturn, 1) := by decide +kernel
theorem dX5_player_92 : decode cX5_player 92 = .ok (.aload_n 0, 1) := by decide +kernel
theorem dX5_player_93 : decode cX5_player 93 = .ok (.getfield 10, 3) := by decide +kernel
theorem dX5_player_96 : decode cX5_player 96 = .ok (.iconst 2, 1) := by decide +kernel
theorem dX5_player_97 : decode cX5_player 97 = .ok (.iload_n 1, 1) := by decide +kernel
theorem dX5_player_98 : decode cX5_player 98 = .ok (.invokevirtual 167, 3) := by decide +kernel
theorem dX5_player_101 : decode cX5_player 101 = .ok (.ireturn, 1) := by decide +kernel
theorem dX5_player_102 : decode cX5_player 102 = .ok (.aload_n 0, 1) := by decide +kernel
theorem dX5_player_103 : decode cX5_player 103 = .ok (.getfield 10, 3) := by decide +kernel
theorem dX5_player_106 : decode cX5_player 106 = .ok (.iload_n 1, 1) := by decide +kernel
theorem dX5_player_107 : decode cX5_player 107 = .ok (.invokevirtual 191, 3) := by decide +kernel
theorem dX5_player_110 : decode cX5_player 110 = .ok (.ireturn, 1) := by decide +kernel
theorem dX5_player_111 : decode cX5_player 111 = .ok (.aload_n 0, 1) := by decide +kernel
theorem dX5_player_112 : decode cX5_player 112 = .ok (.getfield 10, 3) := by decide +kernel
theorem dX5_player_115 : decode cX5_player 115 = .ok (.iload_n 1, 1) := by decide +kernel
theorem dX5_player_116 : decode cX5_player 116 = .ok (.invokevirtual 194, 3) := by decide +kernel
theorem dX5_player_119 : decode cX5_player 119 = .ok (.ireturn, 1) := by decide +kernel
theorem dX5_player_120 : decode cX5_player 120 = .ok (.bipush (-2), 2) := by decide +kernel
theorem dX5_player_122 : decode cX5_player 122 = .ok (.ireturn, 1) := by decide +kernel
set_option maxRecDepth 20000 in
theorem ggX5_ranked_X4_conkerAtRank : GoodIn wsX5_ranked wsX4_conkerAtRank := goodIn_r _ [6, 7, 8, 9, 10, 11, 5, 12, 13, 22, 23, 24, 25, 26, 27, 28, 29, 30, 31, 32, 33, 34] (by decide +kernel) (by decide +kernel)
set_option maxRecDepth 20000 in
theorem gX5_ranked_X4_conkerAtRank : GoodIn wsX5_ranked (wsV RX5 197 RX4 yX4_conkerAtRank wsX4_conkerAtRank) := goodIn_app (goodIn_of _ (by decide +kernel)) ggX5_ranked_X4_conkerAtRank
theorem dX5_ranked_0 : decode cX5_ranked 0 = .ok (.iload_n 1, 1) := by decide +kernel
theorem dX5_ranked_1 : decode cX5_ranked 1 = .ok (.ifCond .ge 6, 3) := by decide +kernel
theorem dX5_ranked_4 : decode cX5_ranked 4 = .ok (.bipush (-2), 2) := by decide +kernel
theorem dX5_ranked_6 : decode cX5_ranked 6 = .ok (.ireturn, 1) := by decide +kernel
theorem dX5_ranked_7 : decode cX5_ranked 7 = .ok (.aload_n 0, 1) := by decide +kernel
theorem dX5_ranked_8 : decode cX5_ranked 8 = .ok (.getfield 10, 3) := by decide +kernel
theorem dX5_ranked_11 : decode cX5_ranked 11 = .ok (.iload_n 1, 1) := by decide +kernel
theorem dX5_ranked_12 : decode cX5_ranked 12 = .ok (.invokevirtual 197, 3) := by decide +kernel
theorem dX5_ranked_15 : decode cX5_ranked 15 = .ok (.ireturn, 1) := by decide +kernel
set_option maxRecDepth 20000 in
theorem ggX5_line_X4_hasConker : GoodIn wsX5_line wsX4_hasConker := goodIn_r _ [6, 7, 8, 9, 10, 29, 30, 31, 32, 33, 34, 35, 36, 37, 38, 39, 40, 41] (by decide +kernel) (by decide +kernel)
set_option maxRecDepth 20000 in
theorem gX5_line_X4_hasConker : GoodIn wsX5_line (wsV RX5 98 RX4 yX4_hasConker wsX4_hasConker) := goodIn_app (goodIn_of _ (by decide +kernel)) ggX5_line_X4_hasConker
set_option maxRecDepth 20000 in
theorem ggX5_line_X4_lengthOfLine : GoodIn wsX5_line wsX4_lengthOfLine := goodIn_r _ [14, 7, 15, 16, 17, 5, 18, 19, 20, 3, 4, 6, 8, 9, 10, 29, 30, 31, 32, 33, 34, 35, 36, 37, 38, 39, 40, 41] (by decide +kernel) (by decide +kernel)
set_option maxRecDepth 20000 in
theorem gX5_line_X4_lengthOfLine : GoodIn wsX5_line (wsV RX5 200 RX4 yX4_lengthOfLine wsX4_lengthOfLine) := goodIn_app (goodIn_of _ (by decide +kernel)) ggX5_line_X4_lengthOfLine
theorem dX5_line_0 : decode cX5_line 0 = .ok (.aload_n 0, 1) := by decide +kernel
theorem dX5_line_1 : decode cX5_line 1 = .ok (.getfield 10, 3) := by decide +kernel
theorem dX5_line_4 : decode cX5_line 4 = .ok (.iload_n 1, 1) := by decide +kernel
theorem dX5_line_5 : decode cX5_line 5 = .ok (.invokevirtual 98, 3) := by decide +kernel
theorem dX5_line_8 : decode cX5_line 8 = .ok (.ifCond .ne 5, 3) := by decide +kernel
theorem dX5_line_11 : decode cX5_line 11 = .ok (.iconst (-1), 1) := by decide +kernel
theorem dX5_line_12 : decode cX5_line 12 = .ok (.ireturn, 1) := by decide +kernel
theorem dX5_line_13 : decode cX5_line 13 = .ok (.aload_n 0, 1) := by decide +kernel
theorem dX5_line_14 : decode cX5_line 14 = .ok (.getfield 10, 3) := by decide +kernel
theorem dX5_line_17 : decode cX5_line 17 = .ok (.iload_n 1, 1) := by decide +kernel
theorem dX5_line_18 : decode cX5_line 18 = .ok (.invokevirtual 200, 3) := by decide +kernel
theorem dX5_line_21 : decode cX5_line 21 = .ok (.ireturn, 1) := by decide +kernel
set_option maxRecDepth 20000 in
theorem ggX5_count_X4_conkersBeing : GoodIn wsX5_count wsX4_conkersBeing := goodIn_r _ [13, 14, 15, 16, 17, 18, 12, 19, 20, 52, 53, 54, 55, 56, 57, 58, 59, 60, 61, 62, 63, 64] (by decide +kernel) (by decide +kernel)
set_option maxRecDepth 20000 in
theorem gX5_count_X4_conkersBeing : GoodIn wsX5_count (wsV RX5 167 RX4 yX4_conkersBeing wsX4_conkersBeing) := goodIn_app (goodIn_of _ (by decide +kernel)) ggX5_count_X4_conkersBeing
set_option maxRecDepth 20000 in
theorem ggX5_count_X4_victoriesOf : GoodIn wsX5_count wsX4_victoriesOf := goodIn_r _ [24, 14, 25, 16, 17, 18, 12, 19, 20, 52, 53, 54, 55, 56, 57, 58, 59, 60, 61, 62, 63, 64] (by decide +kernel) (by decide +kernel)
set_option maxRecDepth 20000 in
theorem gX5_count_X4_victoriesOf : GoodIn wsX5_count (wsV RX5 191 RX4 yX4_victoriesOf wsX4_victoriesOf) := goodIn_app (goodIn_of _ (by decide +kernel)) ggX5_count_X4_victoriesOf
set_option maxRecDepth 20000 in
theorem ggX5_count_X4_conkersWithHeir : GoodIn wsX5_count wsX4_conkersWithHeir := goodIn_r _ [29, 14, 30, 31, 32, 12, 33, 34, 52, 53, 54, 55, 56, 57, 58, 59, 60, 61, 62, 63, 64] (by decide +kernel) (by decide +kernel)
set_option maxRecDepth 20000 in
theorem gX5_count_X4_conkersWithHeir : GoodIn wsX5_count (wsV RX5 209 RX4 yX4_conkersWithHeir wsX4_conkersWithHeir) := goodIn_app (goodIn_of _ (by decide +kernel)) ggX5_count_X4_conkersWithHeir
set_option maxRecDepth 20000 in
theorem ggX5_count_X4_boastsTold : GoodIn wsX5_count wsX4_boastsTold := goodIn_r _ [38, 14, 39, 52, 53, 54, 55, 56, 57, 58, 59, 60, 61, 62, 63, 64] (by decide +kernel) (by decide +kernel)
set_option maxRecDepth 20000 in
theorem gX5_count_X4_boastsTold : GoodIn wsX5_count (wsV RX5 212 RX4 yX4_boastsTold wsX4_boastsTold) := goodIn_app (goodIn_of _ (by decide +kernel)) ggX5_count_X4_boastsTold
set_option maxRecDepth 20000 in
theorem ggX5_count_X4_boastsTooHigh : GoodIn wsX5_count wsX4_boastsTooHigh := goodIn_r _ [43, 14, 39, 25, 52, 53, 54, 55, 56, 57, 58, 59, 60, 61, 62, 63, 64] (by decide +kernel) (by decide +kernel)
set_option maxRecDepth 20000 in
theorem gX5_count_X4_boastsTooHigh : GoodIn wsX5_count (wsV RX5 215 RX4 yX4_boastsTooHigh wsX4_boastsTooHigh) := goodIn_app (goodIn_of _ (by decide +kernel)) ggX5_count_X4_boastsTooHigh
theorem dX5_count_0 : decode cX5_count 0 = .ok (.iload_n 1, 1) := by decide +kernel
theorem dX5_count_1 : decode cX5_count 1 = .ok (.tableswitch 166 0 11 #[63, 71, 81, 91, 101, 110, 118, 126, 134, 142, 150, 158], 63) := by decide +kernel
theorem dX5_count_64 : decode cX5_count 64 = .ok (.aload_n 0, 1) := by decide +kernel
theorem dX5_count_65 : decode cX5_count 65 = .ok (.getfield 10, 3) := by decide +kernel
theorem dX5_count_68 : decode cX5_count 68 = .ok (.getfield 66, 3) := by decide +kernel
theorem dX5_count_71 : decode cX5_count 71 = .ok (.ireturn, 1) := by decide +kernel
theorem dX5_count_72 : decode cX5_count 72 = .ok (.aload_n 0, 1) := by decide +kernel
theorem dX5_count_73 : decode cX5_count 73 = .ok (.getfield 10, 3) := by decide +kernel
theorem dX5_count_76 : decode cX5_count 76 = .ok (.iconst 0, 1) := by decide +kernel
theorem dX5_count_77 : decode cX5_count 77 = .ok (.iconst (-1), 1) := by decide +kernel
theorem dX5_count_78 : decode cX5_count 78 = .ok (.invokevirtual 167, 3) := by decide +kernel
theorem dX5_count_81 : decode cX5_count 81 = .ok (.ireturn, 1) := by decide +kernel
theorem dX5_count_82 : decode cX5_count 82 = .ok (.aload_n 0, 1) := by decide +kernel
theorem dX5_count_83 : decode cX5_count 83 = .ok (.getfield 10, 3) := by decide +kernel
theorem dX5_count_86 : decode cX5_count 86 = .ok (.iconst 1, 1) := by decide +kernel
theorem dX5_count_87 : decode cX5_count 87 = .ok (.iconst (-1), 1) := by decide +kernel
theorem dX5_count_88 : decode cX5_count 88 = .ok (.invokevirtual 167, 3) := by decide +kernel
theorem dX5_count_91 : decode cX5_count 91 = .ok (.ireturn, 1) := by decide +kernel
theorem dX5_count_92 : decode cX5_count 92 = .ok (.aload_n 0, 1) := by decide +kernel
theorem dX5_count_93 : decode cX5_count 93 = .ok (.getfield 10, 3) := by decide +kernel
theorem dX5_count_96 : decode cX5_count 96 = .ok (.iconst 2, 1) := by decide +kernel
theorem dX5_count_97 : decode cX5_count 97 = .ok (.iconst (-1), 1) := by decide +kernel
theorem dX5_count_98 : decode cX5_count 98 = .ok (.invokevirtual 167, 3) := by decide +kernel
theorem dX5_count_101 : decode cX5_count 101 = .ok (.ireturn, 1) := by decide +kernel
theorem dX5_count_102 : decode cX5_count 102 = .ok (.aload_n 0, 1) := by decide +kernel
theorem dX5_count_103 : decode cX5_count 103 = .ok (.getfield 10, 3) := by decide +kernel
theorem dX5_count_106 : decode cX5_count 106 = .ok (.iconst (-1), 1) := by decide +kernel
theorem dX5_count_107 : decode cX5_count 107 = .ok (.invokevirtual 191, 3) := by decide +kernel
theorem dX5_count_110 : decode cX5_count 110 = .ok (.ireturn, 1) := by decide +kernel
theorem dX5_count_111 : decode cX5_count 111 = .ok (.aload_n 0, 1) := by decide +kernel
theorem dX5_count_112 : decode cX5_count 112 = .ok (.getfield 10, 3) := by decide +kernel
theorem dX5_count_115 : decode cX5_count 115 = .ok (.getfield 203, 3) := by decide +kernel
theorem dX5_count_118 : decode cX5_count 118 = .ok (.ireturn, 1) := by decide +kernel
theorem dX5_count_119 : decode cX5_count 119 = .ok (.aload_n 0, 1) := by decide +kernel
theorem dX5_count_120 : decode cX5_count 120 = .ok (.getfield 10, 3) := by decide +kernel
theorem dX5_count_123 : decode cX5_count 123 = .ok (.getfield 206, 3) := by decide +kernel
theorem dX5_count_126 : decode cX5_count 126 = .ok (.ireturn, 1) := by decide +kernel
theorem dX5_count_127 : decode cX5_count 127 = .ok (.aload_n 0, 1) := by decide +kernel
theorem dX5_count_128 : decode cX5_count 128 = .ok (.getfield 10, 3) := by decide +kernel
theorem dX5_count_131 : decode cX5_count 131 = .ok (.invokevirtual 209, 3) := by decide +kernel
theorem dX5_count_134 : decode cX5_count 134 = .ok (.ireturn, 1) := by decide +kernel
theorem dX5_count_135 : decode cX5_count 135 = .ok (.aload_n 0, 1) := by decide +kernel
theorem dX5_count_136 : decode cX5_count 136 = .ok (.getfield 10, 3) := by decide +kernel
theorem dX5_count_139 : decode cX5_count 139 = .ok (.invokevirtual 212, 3) := by decide +kernel
theorem dX5_count_142 : decode cX5_count 142 = .ok (.ireturn, 1) := by decide +kernel
theorem dX5_count_143 : decode cX5_count 143 = .ok (.aload_n 0, 1) := by decide +kernel
theorem dX5_count_144 : decode cX5_count 144 = .ok (.getfield 10, 3) := by decide +kernel
theorem dX5_count_147 : decode cX5_count 147 = .ok (.invokevirtual 215, 3) := by decide +kernel
theorem dX5_count_150 : decode cX5_count 150 = .ok (.ireturn, 1) := by decide +kernel
theorem dX5_count_151 : decode cX5_count 151 = .ok (.aload_n 0, 1) := by decide +kernel
theorem dX5_count_152 : decode cX5_count 152 = .ok (.getfield 25, 3) := by decide +kernel
theorem dX5_count_155 : decode cX5_count 155 = .ok (.getfield 218, 3) := by decide +kernel
theorem dX5_count_158 : decode cX5_count 158 = .ok (.ireturn, 1) := by decide +kernel
theorem dX5_count_159 : decode cX5_count 159 = .ok (.aload_n 0, 1) := by decide +kernel
theorem dX5_count_160 : decode cX5_count 160 = .ok (.getfield 32, 3) := by decide +kernel
theorem dX5_count_163 : decode cX5_count 163 = .ok (.getfield 138, 3) := by decide +kernel
