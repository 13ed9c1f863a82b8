theorem dX4_init_112 : decode cX4_init 112 = .ok (.iconst 3, 1) := by decide +kernel
theorem dX4_init_113 : decode cX4_init 113 = .ok (.iastore, 1) := by decide +kernel
theorem dX4_init_114 : decode cX4_init 114 = .ok (.iinc 1 1, 3) := by decide +kernel
theorem dX4_init_117 : decode cX4_init 117 = .ok (.goto (-16), 3) := by decide +kernel
theorem dX4_init_120 : decode cX4_init 120 = .ok (.return_, 1) := by decide +kernel
theorem dX4_copyFrom_0 : decode cX4_copyFrom 0 = .ok (.aload_n 1, 1) := by decide +kernel
theorem dX4_copyFrom_1 : decode cX4_copyFrom 1 = .ok (.getfield 9, 3) := by decide +kernel
theorem dX4_copyFrom_4 : decode cX4_copyFrom 4 = .ok (.iconst 0, 1) := by decide +kernel
theorem dX4_copyFrom_5 : decode cX4_copyFrom 5 = .ok (.aload_n 0, 1) := by decide +kernel
theorem dX4_copyFrom_6 : decode cX4_copyFrom 6 = .ok (.getfield 9, 3) := by decide +kernel
theorem dX4_copyFrom_9 : decode cX4_copyFrom 9 = .ok (.iconst 0, 1) := by decide +kernel
theorem dX4_copyFrom_10 : decode cX4_copyFrom 10 = .ok (.bipush 6, 2) := by decide +kernel
theorem dX4_copyFrom_12 : decode cX4_copyFrom 12 = .ok (.invokestatic 52, 3) := by decide +kernel
theorem dX4_copyFrom_15 : decode cX4_copyFrom 15 = .ok (.aload_n 1, 1) := by decide +kernel
theorem dX4_copyFrom_16 : decode cX4_copyFrom 16 = .ok (.getfield 15, 3) := by decide +kernel
theorem dX4_copyFrom_19 : decode cX4_copyFrom 19 = .ok (.iconst 0, 1) := by decide +kernel
theorem dX4_copyFrom_20 : decode cX4_copyFrom 20 = .ok (.aload_n 0, 1) := by decide +kernel
theorem dX4_copyFrom_21 : decode cX4_copyFrom 21 = .ok (.getfield 15, 3) := by decide +kernel
theorem dX4_copyFrom_24 : decode cX4_copyFrom 24 = .ok (.iconst 0, 1) := by decide +kernel
theorem dX4_copyFrom_25 : decode cX4_copyFrom 25 = .ok (.bipush 6, 2) := by decide +kernel
theorem dX4_copyFrom_27 : decode cX4_copyFrom 27 = .ok (.invokestatic 52, 3) := by decide +kernel
theorem dX4_copyFrom_30 : decode cX4_copyFrom 30 = .ok (.aload_n 1, 1) := by decide +kernel
theorem dX4_copyFrom_31 : decode cX4_copyFrom 31 = .ok (.getfield 18, 3) := by decide +kernel
theorem dX4_copyFrom_34 : decode cX4_copyFrom 34 = .ok (.iconst 0, 1) := by decide +kernel
theorem dX4_copyFrom_35 : decode cX4_copyFrom 35 = .ok (.aload_n 0, 1) := by decide +kernel
theorem dX4_copyFrom_36 : decode cX4_copyFrom 36 = .ok (.getfield 18, 3) := by decide +kernel
theorem dX4_copyFrom_39 : decode cX4_copyFrom 39 = .ok (.iconst 0, 1) := by decide +kernel
theorem dX4_copyFrom_40 : decode cX4_copyFrom 40 = .ok (.bipush 30, 2) := by decide +kernel
theorem dX4_copyFrom_42 : decode cX4_copyFrom 42 = .ok (.invokestatic 52, 3) := by decide +kernel
theorem dX4_copyFrom_45 : decode cX4_copyFrom 45 = .ok (.aload_n 1, 1) := by decide +kernel
theorem dX4_copyFrom_46 : decode cX4_copyFrom 46 = .ok (.getfield 21, 3) := by decide +kernel
theorem dX4_copyFrom_49 : decode cX4_copyFrom 49 = .ok (.iconst 0, 1) := by decide +kernel
theorem dX4_copyFrom_50 : decode cX4_copyFrom 50 = .ok (.aload_n 0, 1) := by decide +kernel
theorem dX4_copyFrom_51 : decode cX4_copyFrom 51 = .ok (.getfield 21, 3) := by decide +kernel
theorem dX4_copyFrom_54 : decode cX4_copyFrom 54 = .ok (.iconst 0, 1) := by decide +kernel
theorem dX4_copyFrom_55 : decode cX4_copyFrom 55 = .ok (.bipush 30, 2) := by decide +kernel
theorem dX4_copyFrom_57 : decode cX4_copyFrom 57 = .ok (.invokestatic 52, 3) := by decide +kernel
theorem dX4_copyFrom_60 : decode cX4_copyFrom 60 = .ok (.aload_n 1, 1) := by decide +kernel
theorem dX4_copyFrom_61 : decode cX4_copyFrom 61 = .ok (.getfield 24, 3) := by decide +kernel
theorem dX4_copyFrom_64 : decode cX4_copyFrom 64 = .ok (.iconst 0, 1) := by decide +kernel
theorem dX4_copyFrom_65 : decode cX4_copyFrom 65 = .ok (.aload_n 0, 1) := by decide +kernel
theorem dX4_copyFrom_66 : decode cX4_copyFrom 66 = .ok (.getfield 24, 3) := by decide +kernel
theorem dX4_copyFrom_69 : decode cX4_copyFrom 69 = .ok (.iconst 0, 1) := by decide +kernel
theorem dX4_copyFrom_70 : decode cX4_copyFrom 70 = .ok (.bipush 30, 2) := by decide +kernel
theorem dX4_copyFrom_72 : decode cX4_copyFrom 72 = .ok (.invokestatic 52, 3) := by decide +kernel
theorem dX4_copyFrom_75 : decode cX4_copyFrom 75 = .ok (.aload_n 1, 1) := by decide +kernel
theorem dX4_copyFrom_76 : decode cX4_copyFrom 76 = .ok (.getfield 27, 3) := by decide +kernel
theorem dX4_copyFrom_79 : decode cX4_copyFrom 79 = .ok (.iconst 0, 1) := by decide +kernel
theorem dX4_copyFrom_80 : decode cX4_copyFrom 80 = .ok (.aload_n 0, 1) := by decide +kernel
theorem dX4_copyFrom_81 : decode cX4_copyFrom 81 = .ok (.getfield 27, 3) := by decide +kernel
theorem dX4_copyFrom_84 : decode cX4_copyFrom 84 = .ok (.iconst 0, 1) := by decide +kernel
theorem dX4_copyFrom_85 : decode cX4_copyFrom 85 = .ok (.bipush 30, 2) := by decide +kernel
theorem dX4_copyFrom_87 : decode cX4_copyFrom 87 = .ok (.invokestatic 52, 3) := by decide +kernel
theorem dX4_copyFrom_90 : decode cX4_copyFrom 90 = .ok (.aload_n 1, 1) := by decide +kernel
theorem dX4_copyFrom_91 : decode cX4_copyFrom 91 = .ok (.getfield 30, 3) := by decide +kernel
theorem dX4_copyFrom_94 : decode cX4_copyFrom 94 = .ok (.iconst 0, 1) := by decide +kernel
theorem dX4_copyFrom_95 : decode cX4_copyFrom 95 = .ok (.aload_n 0, 1) := by decide +kernel
theorem dX4_copyFrom_96 : decode cX4_copyFrom 96 = .ok (.getfield 30, 3) := by decide +kernel
theorem dX4_copyFrom_99 : decode cX4_copyFrom 99 = .ok (.iconst 0, 1) := by decide +kernel
theorem dX4_copyFrom_100 : decode cX4_copyFrom 100 = .ok (.bipush 30, 2) := by decide +kernel
theorem dX4_copyFrom_102 : decode cX4_copyFrom 102 = .ok (.invokestatic 52, 3) := by decide +kernel
theorem dX4_copyFrom_105 : decode cX4_copyFrom 105 = .ok (.aload_n 1, 1) := by decide +kernel
theorem dX4_copyFrom_106 : decode cX4_copyFrom 106 = .ok (.getfield 33, 3) := by decide +kernel
theorem dX4_copyFrom_109 : decode cX4_copyFrom 109 = .ok (.iconst 0, 1) := by decide +kernel
theorem dX4_copyFrom_110 : decode cX4_copyFrom 110 = .ok (.aload_n 0, 1) := by decide +kernel
theorem dX4_copyFrom_111 : decode cX4_copyFrom 111 = .ok (.getfield 33, 3) := by decide +kernel
theorem dX4_copyFrom_114 : decode cX4_copyFrom 114 = .ok (.iconst 0, 1) := by decide +kernel
theorem dX4_copyFrom_115 : decode cX4_copyFrom 115 = .ok (.bipush 30, 2) := by decide +kernel
theorem dX4_copyFrom_117 : decode cX4_copyFrom 117 = .ok (.invokestatic 52, 3) := by decide +kernel
theorem dX4_copyFrom_120 : decode cX4_copyFrom 120 = .ok (.aload_n 1, 1) := by decide +kernel
theorem dX4_copyFrom_121 : decode cX4_copyFrom 121 = .ok (.getfield 36, 3) := by decide +kernel
theorem dX4_copyFrom_124 : decode cX4_copyFrom 124 = .ok (.iconst 0, 1) := by decide +kernel
theorem dX4_copyFrom_125 : decode cX4_copyFrom 125 = .ok (.aload_n 0, 1) := by decide +kernel
theorem dX4_copyFrom_126 : decode cX4_copyFrom 126 = .ok (.getfield 36, 3) := by decide +kernel
theorem dX4_copyFrom_129 : decode cX4_copyFrom 129 = .ok (.iconst 0, 1) := by decide +kernel
theorem dX4_copyFrom_130 : decode cX4_copyFrom 130 = .ok (.bipush 30, 2) := by decide +kernel
theorem dX4_copyFrom_132 : decode cX4_copyFrom 132 = .ok (.invokestatic 52, 3) := by decide +kernel
theorem dX4_copyFrom_135 : decode cX4_copyFrom 135 = .ok (.aload_n 1, 1) := by decide +kernel
theorem dX4_copyFrom_136 : decode cX4_copyFrom 136 = .ok (.getfield 39, 3) := by decide +kernel
theorem dX4_copyFrom_139 : decode cX4_copyFrom 139 = .ok (.iconst 0, 1) := by decide +kernel
theorem dX4_copyFrom_140 : decode cX4_copyFrom 140 = .ok (.aload_n 0, 1) := by decide +kernel
theorem dX4_copyFrom_141 : decode cX4_copyFrom 141 = .ok (.getfield 39, 3) := by decide +kernel
theorem dX4_copyFrom_144 : decode cX4_copyFrom 144 = .ok (.iconst 0, 1) := by decide +kernel
theorem dX4_copyFrom_145 : decode cX4_copyFrom 145 = .ok (.bipush 30, 2) := by decide +kernel
theorem dX4_copyFrom_147 : decode cX4_copyFrom 147 = .ok (.invokestatic 52, 3) := by decide +kernel
theorem dX4_copyFrom_150 : decode cX4_copyFrom 150 = .ok (.aload_n 0, 1) := by decide +kernel
theorem dX4_copyFrom_151 : decode cX4_copyFrom 151 = .ok (.aload_n 1, 1) := by decide +kernel
theorem dX4_copyFrom_152 : decode cX4_copyFrom 152 = .ok (.getfield 42, 3) := by decide +kernel
theorem dX4_copyFrom_155 : decode cX4_copyFrom 155 = .ok (.putfield 42, 3) := by decide +kernel
theorem dX4_copyFrom_158 : decode cX4_copyFrom 158 = .ok (.aload_n 0, 1) := by decide +kernel
theorem dX4_copyFrom_159 : decode cX4_copyFrom 159 = .ok (.aload_n 1, 1) := by decide +kernel
theorem dX4_copyFrom_160 : decode cX4_copyFrom 160 = .ok (.getfield 46, 3) := by decide +kernel
theorem dX4_copyFrom_163 : decode cX4_copyFrom 163 = .ok (.putfield 46, 3) := by decide +kernel
theorem dX4_copyFrom_166 : decode cX4_copyFrom 166 = .ok (.aload_n 0, 1) := by decide +kernel
theorem dX4_copyFrom_167 : decode cX4_copyFrom 167 = .ok (.aload_n 1, 1) := by decide +kernel
theorem dX4_copyFrom_168 : decode cX4_copyFrom 168 = .ok (.getfield 49, 3) := by decide +kernel
theorem dX4_copyFrom_171 : decode cX4_copyFrom 171 = .ok (.putfield 49, 3) := by decide +kernel
theorem dX4_copyFrom_174 : decode cX4_copyFrom 174 = .ok (.return_, 1) := by decide +kernel
set_option maxRecDepth 20000 in
theorem ggX4_hasConker_X5_isWithin : GoodIn wsX4_hasConker wsX5_isWithin := goodIn_r _ [4] (by decide +kernel) (by decide +kernel)
set_option maxRecDepth 20000 in
theorem gX4_hasConker_X5_isWithin_n58 : GoodIn wsX4_hasConker (wsX5_isWithin) := ggX4_hasConker_X5_isWithin
theorem dX4_hasConker_0 : decode cX4_hasConker 0 = .ok (.iload_n 1, 1) := by decide +kernel
theorem dX4_hasConker_1 : decode cX4_hasConker 1 = .ok (.iconst 0, 1) := by decide +kernel
theorem dX4_hasConker_2 : decode cX4_hasConker 2 = .ok (.aload_n 0, 1) := by decide +kernel
theorem dX4_hasConker_3 : decode cX4_hasConker 3 = .ok (.getfield 42, 3) := by decide +kernel
theorem dX4_hasConker_6 : decode cX4_hasConker 6 = .ok (.iconst 1, 1) := by decide +kernel
theorem dX4_hasConker_7 : decode cX4_hasConker 7 = .ok (.isub, 1) := by decide +kernel
theorem dX4_hasConker_8 : decode cX4_hasConker 8 = .ok (.invokestatic 58, 3) := by decide +kernel
theorem dX4_hasConker_11 : decode cX4_hasConker 11 = .ok (.ireturn, 1) := by decide +kernel
set_option maxRecDepth 20000 in
theorem ggX4_strikeError_X5_isWithin : GoodIn wsX4_strikeError wsX5_isWithin := goodIn_r _ [3] (by decide +kernel) (by decide +kernel)
set_option maxRecDepth 20000 in
theorem gX4_strikeError_X5_isWithin_n58 : GoodIn wsX4_strikeError (wsX5_isWithin) := ggX4_strikeError_X5_isWithin
set_option maxRecDepth 20000 in
theorem ggX4_strikeError_X4_pairError : GoodIn wsX4_strikeError wsX4_pairError := goodIn_r _ [8, 9, 10, 11, 12, 7, 13, 14, 1, 2, 3, 15, 16, 17, 18, 19, 20, 21, 22, 23, 24, 25, 26, 27, 28, 29, 30, 31, 32] (by decide +kernel) (by decide +kernel)
set_option maxRecDepth 20000 in
theorem gX4_strikeError_X4_pairError : GoodIn wsX4_strikeError (wsV RX4 62 RX4 yX4_pairError wsX4_pairError) := goodIn_app (goodIn_of _ (by decide +kernel)) ggX4_strikeError_X4_pairError
theorem dX4_strikeError_0 : decode cX4_strikeError 0 = .ok (.aload_n 0, 1) := by decide +kernel
theorem dX4_strikeError_1 : decode cX4_strikeError 1 = .ok (.iload_n 1, 1) := by decide +kernel
theorem dX4_strikeError_2 : decode cX4_strikeError 2 = .ok (.iload_n 2, 1) := by decide +kernel
theorem dX4_strikeError_3 : decode cX4_strikeError 3 = .ok (.iload_n 3, 1) := by decide +kernel
theorem dX4_strikeError_4 : decode cX4_strikeError 4 = .ok (.iconst 1, 1) := by decide +kernel
theorem dX4_strikeError_5 : decode cX4_strikeError 5 = .ok (.bipush 9, 2) := by decide +kernel
theorem dX4_strikeError_7 : decode cX4_strikeError 7 = .ok (.invokestatic 58, 3) := by decide +kernel
theorem dX4_strikeError_10 : decode cX4_strikeError 10 = .ok (.invokevirtual 62, 3) := by decide +kernel
theorem dX4_strikeError_13 : decode cX4_strikeError 13 = .ok (.ireturn, 1) := by decide +kernel
set_option maxRecDepth 20000 in
theorem ggX4_boutError_X5_isWithin : GoodIn wsX4_boutError wsX5_isWithin := goodIn_r _ [4] (by decide +kernel) (by decide +kernel)
set_option maxRecDepth 20000 in
theorem gX4_boutError_X5_isWithin_n58 : GoodIn wsX4_boutError (wsX5_isWithin) := ggX4_boutError_X5_isWithin
set_option maxRecDepth 20000 in
theorem ggX4_boutError_X4_pairError : GoodIn wsX4_boutError wsX4_pairError := goodIn_r _ [9, 10, 11, 12, 13, 8, 14, 15, 2, 3, 4, 16, 17, 18, 19, 20, 21, 22, 23, 24, 25, 26, 27, 28, 29, 30, 31, 32, 33] (by decide +kernel) (by decide +kernel)
set_option maxRecDepth 20000 in
theorem gX4_boutError_X4_pairError : GoodIn wsX4_boutError (wsV RX4 62 RX4 yX4_pairError wsX4_pairError) := goodIn_app (goodIn_of _ (by decide +kernel)) ggX4_boutError_X4_pairError
theorem dX4_boutError_0 : decode cX4_boutError 0 = .ok (.aload_n 0, 1) := by decide +kernel
theorem dX4_boutError_1 : decode cX4_boutError 1 = .ok (.iload_n 1, 1) := by decide +kernel
theorem dX4_boutError_2 : decode cX4_boutError 2 = .ok (.iload_n 2, 1) := by decide +kernel
theorem dX4_boutError_3 : decode cX4_boutError 3 = .ok (.iload_n 3, 1) := by decide +kernel
theorem dX4_boutError_4 : decode cX4_boutError 4 = .ok (.iconst 0, 1) := by decide +kernel
theorem dX4_boutError_5 : decode cX4_boutError 5 = .ok (.ldc 66, 2) := by decide +kernel
theorem dX4_boutError_7 : decode cX4_boutError 7 = .ok (.invokestatic 58, 3) := by decide +kernel
theorem dX4_boutError_10 : decode cX4_boutError 10 = .ok (.invokevirtual 62, 3) := by decide +kernel
theorem dX4_boutError_13 : decode cX4_boutError 13 = .ok (.ireturn, 1) := by decide +kernel
set_option maxRecDepth 20000 in
theorem ggX4_pairError_X4_hasConker : GoodIn wsX4_pairError wsX4_hasConker := goodIn_r _ [6, 7, 8, 9, 10, 16, 17, 18, 19, 20, 21, 22, 23, 24, 25, 26, 27, 28] (by decide +kernel) (by decide +kernel)
set_option maxRecDepth 20000 in
theorem gX4_pairError_X4_hasConker : GoodIn wsX4_pairError (wsV RX4 67 RX4 yX4_hasConker wsX4_hasConker) := goodIn_app (goodIn_of _ (by decide +kernel)) ggX4_pairError_X4_hasConker
set_option maxRecDepth 20000 in
theorem ggX4_pairError_X4_areInPlay : GoodIn wsX4_pairError wsX4_areInPlay := goodIn_r _ [14, 15, 16, 17, 18, 19, 20, 21, 22, 23, 24, 25, 26, 27, 28] (by decide +kernel) (by decide +kernel)
set_option maxRecDepth 20000 in
theorem gX4_pairError_X4_areInPlay : GoodIn wsX4_pairError (wsV RX4 71 RX4 yX4_areInPlay wsX4_areInPlay) := goodIn_app (goodIn_of _ (by decide +kernel)) ggX4_pairError_X4_areInPlay
theorem dX4_pairError_0 : decode cX4_pairError 0 = .ok (.aload_n 0, 1) := by decide +kernel
theorem dX4_pairError_1 : decode cX4_pairError 1 = .ok (.iload_n 1, 1) := by decide +kernel
theorem dX4_pairError_2 : decode cX4_pairError 2 = .ok (.invokevirtual 67, 3) := by decide +kernel
theorem dX4_pairError_5 : decode cX4_pairError 5 = .ok (.ifCond .eq 11, 3) := by decide +kernel
theorem dX4_pairError_8 : decode cX4_pairError 8 = .ok (.aload_n 0, 1) := by decide +kernel
theorem dX4_pairError_9 : decode cX4_pairError 9 = .ok (.iload_n 2, 1) := by decide +kernel
theorem dX4_pairError_10 : decode cX4_pairError 10 = .ok (.invokevirtual 67, 3) := by decide +kernel
theorem dX4_pairError_13 : decode cX4_pairError 13 = .ok (.ifCond .ne 5, 3) := by decide +kernel
theorem dX4_pairError_16 : decode cX4_pairError 16 = .ok (.iconst (-1), 1) := by decide +kernel
theorem dX4_pairError_17 : decode cX4_pairError 17 = .ok (.ireturn, 1) := by decide +kernel
theorem dX4_pairError_18 : decode cX4_pairError 18 = .ok (.iload_n 3, 1) := by decide +kernel
theorem dX4_pairError_19 : decode cX4_pairError 19 = .ok (.ifCond .ne 6, 3) := by decide +kernel
theorem dX4_pairError_22 : decode cX4_pairError 22 = .ok (.bipush (-2), 2) := by decide +kernel
theorem dX4_pairError_24 : decode cX4_pairError 24 = .ok (.ireturn, 1) := by decide +kernel
theorem dX4_pairError_25 : decode cX4_pairError 25 = .ok (.aload_n 0, 1) := by decide +kernel
theorem dX4_pairError_26 : decode cX4_pairError 26 = .ok (.getfield 18, 3) := by decide +kernel
theorem dX4_pairError_29 : decode cX4_pairError 29 = .ok (.iload_n 1, 1) := by decide +kernel
theorem dX4_pairError_30 : decode cX4_pairError 30 = .ok (.iaload, 1) := by decide +kernel
theorem dX4_pairError_31 : decode cX4_pairError 31 = .ok (.aload_n 0, 1) := by decide +kernel
theorem dX4_pairError_32 : decode cX4_pairError 32 = .ok (.getfield 18, 3) := by decide +kernel
theorem dX4_pairError_35 : decode cX4_pairError 35 = .ok (.iload_n 2, 1) := by decide +kernel
theorem dX4_pairError_36 : decode cX4_pairError 36 = .ok (.iaload, 1) := by decide +kernel
theorem dX4_pairError_37 : decode cX4_pairError 37 = .ok (.if_icmp .eq 12, 3) := by decide +kernel
theorem dX4_pairError_40 : decode cX4_pairError 40 = .ok (.aload_n 0, 1) := by decide +kernel
theorem dX4_pairError_41 : decode cX4_pairError 41 = .ok (.iload_n 1, 1) := by decide +kernel
theorem dX4_pairError_42 : decode cX4_pairError 42 = .ok (.iload_n 2, 1) := by decide +kernel
theorem dX4_pairError_43 : decode cX4_pairError 43 = .ok (.invokevirtual 71, 3) := by decide +kernel
theorem dX4_pairError_46 : decode cX4_pairError 46 = .ok (.ifCond .ne 8, 3) := by decide +kernel
theorem dX4_pairError_49 : decode cX4_pairError 49 = .ok (.bipush (-4), 2) := by decide +kernel
theorem dX4_pairError_51 : decode cX4_pairError 51 = .ok (.goto 4, 3) := by decide +kernel
theorem dX4_pairError_54 : decode cX4_pairError 54 = .ok (.iconst 0, 1) := by decide +kernel
theorem dX4_pairError_55 : decode cX4_pairError 55 = .ok (.ireturn, 1) := by decide +kernel
set_option maxRecDepth 20000 in
theorem ggX4_mendError_X4_fallenError : GoodIn wsX4_mendError wsX4_fallenError := goodIn_r _ [7, 8, 9, 10, 11, 6, 12, 13, 14, 15, 16, 17, 18, 19, 20, 21, 22, 23, 24, 25, 26, 27, 28, 29] (by decide +kernel) (by decide +kernel)
set_option maxRecDepth 20000 in
theorem gX4_mendError_X4_fallenError : GoodIn wsX4_mendError (wsV RX4 75 RX4 yX4_fallenError wsX4_fallenError) := goodIn_app (goodIn_of _ (by decide +kernel)) ggX4_mendError_X4_fallenError
theorem dX4_mendError_0 : decode cX4_mendError 0 = .ok (.aload_n 0, 1) := by decide +kernel
theorem dX4_mendError_1 : decode cX4_mendError 1 = .ok (.iload_n 1, 1) := by decide +kernel
theorem dX4_mendError_2 : decode cX4_mendError 2 = .ok (.invokevirtual 75, 3) := by decide +kernel
theorem dX4_mendError_5 : decode cX4_mendError 5 = .ok (.istore_n 2, 1) := by decide +kernel
theorem dX4_mendError_6 : decode cX4_mendError 6 = .ok (.iload_n 2, 1) := by decide +kernel
theorem dX4_mendError_7 : decode cX4_mendError 7 = .ok (.ifCond .eq 5, 3) := by decide +kernel
theorem dX4_mendError_10 : decode cX4_mendError 10 = .ok (.iload_n 2, 1) := by decide +kernel
theorem dX4_mendError_11 : decode cX4_mendError 11 = .ok (.ireturn, 1) := by decide +kernel
theorem dX4_mendError_12 : decode cX4_mendError 12 = .ok (.aload_n 0, 1) := by decide +kernel
theorem dX4_mendError_13 : decode cX4_mendError 13 = .ok (.getfield 9, 3) := by decide +kernel
theorem dX4_mendError_16 : decode cX4_mendError 16 = .ok (.aload_n 0, 1) := by decide +kernel
theorem dX4_mendError_17 : decode cX4_mendError 17 = .ok (.getfield 18, 3) := by decide +kernel
theorem dX4_mendError_20 : decode cX4_mendError 20 = .ok (.iload_n 1, 1) := by decide +kernel
theorem dX4_mendError_21 : decode cX4_mendError 21 = .ok (.iaload, 1) := by decide +kernel
theorem dX4_mendError_22 : decode cX4_mendError 22 = .ok (.iaload, 1) := by decide +kernel
theorem dX4_mendError_23 : decode cX4_mendError 23 = .ok (.iconst 1, 1) := by decide +kernel
theorem dX4_mendError_24 : decode cX4_mendError 24 = .ok (.if_icmp .ge 8, 3) := by decide +kernel
theorem dX4_mendError_27 : decode cX4_mendError 27 = .ok (.bipush (-4), 2) := by decide +kernel
theorem dX4_mendError_29 : decode cX4_mendError 29 = .ok (.goto 4, 3) := by decide +kernel
theorem dX4_mendError_32 : decode cX4_mendError 32 = .ok (.iconst 0, 1) := by decide +kernel
theorem dX4_mendError_33 : decode cX4_mendError 33 = .ok (.ireturn, 1) := by decide +kernel
set_option maxRecDepth 20000 in
theorem ggX4_fallenError_X4_hasConker : GoodIn wsX4_fallenError wsX4_hasConker := goodIn_r _ [6, 7, 8, 9, 10, 11, 12, 13, 14, 15, 16, 17, 18, 19, 20, 21, 22, 23] (by decide +kernel) (by decide +kernel)
set_option maxRecDepth 20000 in
theorem gX4_fallenError_X4_hasConker : GoodIn wsX4_fallenError (wsV RX4 67 RX4 yX4_hasConker wsX4_hasConker) := goodIn_app (goodIn_of _ (by decide +kernel)) ggX4_fallenError_X4_hasConker
theorem dX4_fallenError_0 : decode cX4_fallenError 0 = .ok (.aload_n 0, 1) := by decide +kernel
theorem dX4_fallenError_1 : decode cX4_fallenError 1 = .ok (.iload_n 1, 1) := by decide +kernel
theorem dX4_fallenError_2 : decode cX4_fallenError 2 = .ok (.invokevirtual 67, 3) := by decide +kernel
theorem dX4_fallenError_5 : decode cX4_fallenError 5 = .ok (.ifCond .ne 5, 3) := by decide +kernel
theorem dX4_fallenError_8 : decode cX4_fallenError 8 = .ok (.iconst (-1), 1) := by decide +kernel
theorem dX4_fallenError_9 : decode cX4_fallenError 9 = .ok (.ireturn, 1) := by decide +kernel
theorem dX4_fallenError_10 : decode cX4_fallenError 10 = .ok (.aload_n 0, 1) := by decide +kernel
theorem dX4_fallenError_11 : decode cX4_fallenError 11 = .ok (.getfield 36, 3) := by decide +kernel
theorem dX4_fallenError_14 : decode cX4_fallenError 14 = .ok (.iload_n 1, 1) := by decide +kernel
theorem dX4_fallenError_15 : decode cX4_fallenError 15 = .ok (.iaload, 1) := by decide +kernel
theorem dX4_fallenError_16 : decode cX4_fallenError 16 = .ok (.iconst 1, 1) := by decide +kernel
theorem dX4_fallenError_17 : decode cX4_fallenError 17 = .ok (.if_icmp .ne 7, 3) := by decide +kernel
theorem dX4_fallenError_20 : decode cX4_fallenError 20 = .ok (.iconst 0, 1) := by decide +kernel
theorem dX4_fallenError_21 : decode cX4_fallenError 21 = .ok (.goto 5, 3) := by decide +kernel
theorem dX4_fallenError_24 : decode cX4_fallenError 24 = .ok (.bipush (-4), 2) := by decide +kernel
theorem dX4_fallenError_26 : decode cX4_fallenError 26 = .ok (.ireturn, 1) := by decide +kernel
theorem dX4_addConker_0 : decode cX4_addConker 0 = .ok (.aload_n 0, 1) := by decide +kernel
theorem dX4_addConker_1 : decode cX4_addConker 1 = .ok (.getfield 42, 3) := by decide +kernel
theorem dX4_addConker_4 : decode cX4_addConker 4 = .ok (.istore_n 3, 1) := by decide +kernel
theorem dX4_addConker_5 : decode cX4_addConker 5 = .ok (.aload_n 0, 1) := by decide +kernel
theorem dX4_addConker_6 : decode cX4_addConker 6 = .ok (.getfield 9, 3) := by decide +kernel
theorem dX4_addConker_9 : decode cX4_addConker 9 = .ok (.iload_n 1, 1) := by decide +kernel
theorem dX4_addConker_10 : decode cX4_addConker 10 = .ok (.dup2, 1) := by decide +kernel
theorem dX4_addConker_11 : decode cX4_addConker 11 = .ok (.iaload, 1) := by decide +kernel
theorem dX4_addConker_12 : decode cX4_addConker 12 = .ok (.iconst 1, 1) := by decide +kernel
theorem dX4_addConker_13 : decode cX4_addConker 13 = .ok (.isub, 1) := by decide +kernel
theorem dX4_addConker_14 : decode cX4_addConker 14 = .ok (.iastore, 1) := by decide +kernel
theorem dX4_addConker_15 : decode cX4_addConker 15 = .ok (.aload_n 0, 1) := by decide +kernel
theorem dX4_addConker_16 : decode cX4_addConker 16 = .ok (.getfield 18, 3) := by decide +kernel
theorem dX4_addConker_19 : decode cX4_addConker 19 = .ok (.iload_n 3, 1) := by decide +kernel
theorem dX4_addConker_20 : decode cX4_addConker 20 = .ok (.iload_n 1, 1) := by decide +kernel
theorem dX4_addConker_21 : decode cX4_addConker 21 = .ok (.iastore, 1) := by decide +kernel
theorem dX4_addConker_22 : decode cX4_addConker 22 = .ok (.aload_n 0, 1) := by decide +kernel
theorem dX4_addConker_23 : decode cX4_addConker 23 = .ok (.getfield 21, 3) := by decide +kernel
theorem dX4_addConker_26 : decode cX4_addConker 26 = .ok (.iload_n 3, 1) := by decide +kernel
theorem dX4_addConker_27 : decode cX4_addConker 27 = .ok (.iload_n 2, 1) := by decide +kernel
theorem dX4_addConker_28 : decode cX4_addConker 28 = .ok (.iastore, 1) := by decide +kernel
theorem dX4_addConker_29 : decode cX4_addConker 29 = .ok (.aload_n 0, 1) := by decide +kernel
theorem dX4_addConker_30 : decode cX4_addConker 30 = .ok (.getfield 24, 3) := by decide +kernel
theorem dX4_addConker_33 : decode cX4_addConker 33 = .ok (.iload_n 3, 1) := by decide +kernel
theorem dX4_addConker_34 : decode cX4_addConker 34 = .ok (.iconst 0, 1) := by decide +kernel
theorem dX4_addConker_35 : decode cX4_addConker 35 = .ok (.iastore, 1) := by decide +kernel
theorem dX4_addConker_36 : decode cX4_addConker 36 = .ok (.aload_n 0, 1) := by decide +kernel
theorem dX4_addConker_37 : decode cX4_addConker 37 = .ok (.getfield 27, 3) := by decide +kernel
theorem dX4_addConker_40 : decode cX4_addConker 40 = .ok (.iload_n 3, 1) := by decide +kernel
theorem dX4_addConker_41 : decode cX4_addConker 41 = .ok (.iconst 0, 1) := by decide +kernel
theorem dX4_addConker_42 : decode cX4_addConker 42 = .ok (.iastore, 1) := by decide +kernel
theorem dX4_addConker_43 : decode cX4_addConker 43 = .ok (.aload_n 0, 1) := by decide +kernel
theorem dX4_addConker_44 : decode cX4_addConker 44 = .ok (.getfield 30, 3) := by decide +kernel
theorem dX4_addConker_47 : decode cX4_addConker 47 = .ok (.iload_n 3, 1) := by decide +kernel
theorem dX4_addConker_48 : decode cX4_addConker 48 = .ok (.iconst 0, 1) := by decide +kernel
theorem dX4_addConker_49 : decode cX4_addConker 49 = .ok (.iastore, 1) := by decide +kernel
theorem dX4_addConker_50 : decode cX4_addConker 50 = .ok (.aload_n 0, 1) := by decide +kernel
theorem dX4_addConker_51 : decode cX4_addConker 51 = .ok (.getfield 33, 3) := by decide +kernel
theorem dX4_addConker_54 : decode cX4_addConker 54 = .ok (.iload_n 3, 1) := by decide +kernel
theorem dX4_addConker_55 : decode cX4_addConker 55 = .ok (.bipush (-5), 2) := by decide +kernel
theorem dX4_addConker_57 : decode cX4_addConker 57 = .ok (.iastore, 1) := by decide +kernel
theorem dX4_addConker_58 : decode cX4_addConker 58 = .ok (.aload_n 0, 1) := by decide +kernel
theorem dX4_addConker_59 : decode cX4_addConker 59 = .ok (.getfield 36, 3) := by decide +kernel
theorem dX4_addConker_62 : decode cX4_addConker 62 = .ok (.iload_n 3, 1) := by decide +kernel
theorem dX4_addConker_63 : decode cX4_addConker 63 = .ok (.iconst 0, 1) := by decide +kernel
theorem dX4_addConker_64 : decode cX4_addConker 64 = .ok (.iastore, 1) := by decide +kernel
theorem dX4_addConker_65 : decode cX4_addConker 65 = .ok (.aload_n 0, 1) := by decide +kernel
theorem dX4_addConker_66 : decode cX4_addConker 66 = .ok (.getfield 39, 3) := by decide +kernel
theorem dX4_addConker_69 : decode cX4_addConker 69 = .ok (.iload_n 3, 1) := by decide +kernel
theorem dX4_addConker_70 : decode cX4_addConker 70 = .ok (.bipush (-5), 2) := by decide +kernel
theorem dX4_addConker_72 : decode cX4_addConker 72 = .ok (.iastore, 1) := by decide +kernel
theorem dX4_addConker_73 : decode cX4_addConker 73 = .ok (.aload_n 0, 1) := by decide +kernel
theorem dX4_addConker_74 : decode cX4_addConker 74 = .ok (.dup, 1) := by decide +kernel
theorem dX4_addConker_75 : decode cX4_addConker 75 = .ok (.getfield 42, 3) := by decide +kernel
theorem dX4_addConker_78 : decode cX4_addConker 78 = .ok (.iconst 1, 1) := by decide +kernel
theorem dX4_addConker_79 : decode cX4_addConker 79 = .ok (.iadd, 1) := by decide +kernel
theorem dX4_addConker_80 : decode cX4_addConker 80 = .ok (.putfield 42, 3) := by decide +kernel
theorem dX4_addConker_83 : decode cX4_addConker 83 = .ok (.iload_n 3, 1) := by decide +kernel
theorem dX4_addConker_84 : decode cX4_addConker 84 = .ok (.ireturn, 1) := by decide +kernel
theorem dX4_threadAgain_0 : decode cX4_threadAgain 0 = .ok (.aload_n 0, 1) := by decide +kernel
theorem dX4_threadAgain_1 : decode cX4_threadAgain 1 = .ok (.getfield 18, 3) := by decide +kernel
theorem dX4_threadAgain_4 : decode cX4_threadAgain 4 = .ok (.iload_n 1, 1) := by decide +kernel
theorem dX4_threadAgain_5 : decode cX4_threadAgain 5 = .ok (.iaload, 1) := by decide +kernel
theorem dX4_threadAgain_6 : decode cX4_threadAgain 6 = .ok (.istore_n 2, 1) := by decide +kernel
theorem dX4_threadAgain_7 : decode cX4_threadAgain 7 = .ok (.aload_n 0, 1) := by decide +kernel
theorem dX4_threadAgain_8 : decode cX4_threadAgain 8 = .ok (.getfield 9, 3) := by decide +kernel
theorem dX4_threadAgain_11 : decode cX4_threadAgain 11 = .ok (.iload_n 2, 1) := by decide +kernel
theorem dX4_threadAgain_12 : decode cX4_threadAgain 12 = .ok (.dup2, 1) := by decide +kernel
theorem dX4_threadAgain_13 : decode cX4_threadAgain 13 = .ok (.iaload, 1) := by decide +kernel
theorem dX4_threadAgain_14 : decode cX4_threadAgain 14 = .ok (.iconst 1, 1) := by decide +kernel
theorem dX4_threadAgain_15 : decode cX4_threadAgain 15 = .ok (.isub, 1) := by decide +kernel
theorem dX4_threadAgain_16 : decode cX4_threadAgain 16 = .ok (.iastore, 1) := by decide +kernel
theorem dX4_threadAgain_17 : decode cX4_threadAgain 17 = .ok (.aload_n 0, 1) := by decide +kernel
theorem dX4_threadAgain_18 : decode cX4_threadAgain 18 = .ok (.getfield 27, 3) := by decide +kernel
theorem dX4_threadAgain_21 : decode cX4_threadAgain 21 = .ok (.iload_n 1, 1) := by decide +kernel
theorem dX4_threadAgain_22 : decode cX4_threadAgain 22 = .ok (.iconst 0, 1) := by decide +kernel
theorem dX4_threadAgain_23 : decode cX4_threadAgain 23 = .ok (.iastore, 1) := by decide +kernel
theorem dX4_threadAgain_24 : decode cX4_threadAgain 24 = .ok (.aload_n 0, 1) := by decide +kernel
theorem dX4_threadAgain_25 : decode cX4_threadAgain 25 = .ok (.getfield 36, 3) := by decide +kernel
theorem dX4_threadAgain_28 : decode cX4_threadAgain 28 = .ok (.iload_n 1, 1) := by decide +kernel
theorem dX4_threadAgain_29 : decode cX4_threadAgain 29 = .ok (.iconst 0, 1) := by decide +kernel
theorem dX4_threadAgain_30 : decode cX4_threadAgain 30 = .ok (.iastore, 1) := by decide +kernel
theorem dX4_threadAgain_31 : decode cX4_threadAgain 31 = .ok (.aload_n 0, 1) := by decide +kernel
theorem dX4_threadAgain_32 : decode cX4_threadAgain 32 = .ok (.getfield 9, 3) := by decide +kernel
theorem dX4_threadAgain_35 : decode cX4_threadAgain 35 = .ok (.iload_n 2, 1) := by decide +kernel
theorem dX4_threadAgain_36 : decode cX4_threadAgain 36 = .ok (.iaload, 1) := by decide +kernel
theorem dX4_threadAgain_37 : decode cX4_threadAgain 37 = .ok (.ireturn, 1) := by decide +kernel
set_option maxRecDepth 20000 in
theorem ggX4_crush_X4_takeVictoriesOfSmashed : GoodIn wsX4_crush wsX4_takeVictoriesOfSmashed := goodIn_r _ [6, 7, 8, 9, 10, 11, 12, 13, 14, 15, 16, 17, 18, 19, 20, 21, 22] (by decide +kernel) (by decide +kernel)
set_option maxRecDepth 20000 in
theorem gX4_crush_X4_takeVictoriesOfSmashed : GoodIn wsX4_crush (wsV RX4 79 RX4 yX4_takeVictoriesOfSmashed wsX4_takeVictoriesOfSmashed) := goodIn_app (goodIn_of _ (by decide +kernel)) ggX4_crush_X4_takeVictoriesOfSmashed
theorem dX4_crush_0 : decode cX4_crush 0 = .ok (.aload_n 0, 1) := by decide +kernel
theorem dX4_crush_1 : decode cX4_crush 1 = .ok (.iload_n 1, 1) := by decide +kernel
theorem dX4_crush_2 : decode cX4_crush 2 = .ok (.invokevirtual 79, 3) := by decide +kernel
theorem dX4_crush_5 : decode cX4_crush 5 = .ok (.istore_n 2, 1) := by decide +kernel
theorem dX4_crush_6 : decode cX4_crush 6 = .ok (.aload_n 0, 1) := by decide +kernel
theorem dX4_crush_7 : decode cX4_crush 7 = .ok (.dup, 1) := by decide +kernel
theorem dX4_crush_8 : decode cX4_crush 8 = .ok (.getfield 46, 3) := by decide +kernel
theorem dX4_crush_11 : decode cX4_crush 11 = .ok (.iload_n 2, 1) := by decide +kernel
theorem dX4_crush_12 : decode cX4_crush 12 = .ok (.iadd, 1) := by decide +kernel
theorem dX4_crush_13 : decode cX4_crush 13 = .ok (.putfield 46, 3) := by decide +kernel
theorem dX4_crush_16 : decode cX4_crush 16 = .ok (.iload_n 2, 1) := by decide +kernel
theorem dX4_crush_17 : decode cX4_crush 17 = .ok (.ireturn, 1) := by decide +kernel
theorem dX4_settleBoast_0 : decode cX4_settleBoast 0 = .ok (.aload_n 0, 1) := by decide +kernel
theorem dX4_settleBoast_1 : decode cX4_settleBoast 1 = .ok (.getfield 33, 3) := by decide +kernel
theorem dX4_settleBoast_4 : decode cX4_settleBoast 4 = .ok (.iload_n 2, 1) := by decide +kernel
theorem dX4_settleBoast_5 : decode cX4_settleBoast 5 = .ok (.iaload, 1) := by decide +kernel
theorem dX4_settleBoast_6 : decode cX4_settleBoast 6 = .ok (.aload_n 0, 1) := by decide +kernel
theorem dX4_settleBoast_7 : decode cX4_settleBoast 7 = .ok (.getfield 30, 3) := by decide +kernel
theorem dX4_settleBoast_10 : decode cX4_settleBoast 10 = .ok (.iload_n 2, 1) := by decide +kernel
theorem dX4_settleBoast_11 : decode cX4_settleBoast 11 = .ok (.iaload, 1) := by decide +kernel
theorem dX4_settleBoast_12 : decode cX4_settleBoast 12 = .ok (.if_icmp .le 12, 3) := by decide +kernel
theorem dX4_settleBoast_15 : decode cX4_settleBoast 15 = .ok (.aload_n 0, 1) := by decide +kernel
theorem dX4_settleBoast_16 : decode cX4_settleBoast 16 = .ok (.getfield 18, 3) := by decide +kernel
theorem dX4_settleBoast_19 : decode cX4_settleBoast 19 = .ok (.iload_n 2, 1) := by decide +kernel
theorem dX4_settleBoast_20 : decode cX4_settleBoast 20 = .ok (.iaload, 1) := by decide +kernel
theorem dX4_settleBoast_21 : decode cX4_settleBoast 21 = .ok (.goto 4, 3) := by decide +kernel
theorem dX4_settleBoast_24 : decode cX4_settleBoast 24 = .ok (.iload_n 1, 1) := by decide +kernel
theorem dX4_settleBoast_25 : decode cX4_settleBoast 25 = .ok (.istore_n 3, 1) := by decide +kernel
theorem dX4_settleBoast_26 : decode cX4_settleBoast 26 = .ok (.aload_n 0, 1) := by decide +kernel
theorem dX4_settleBoast_27 : decode cX4_settleBoast 27 = .ok (.getfield 15, 3) := by decide +kernel
theorem dX4_settleBoast_30 : decode cX4_settleBoast 30 = .ok (.iload_n 3, 1) := by decide +kernel
theorem dX4_settleBoast_31 : decode cX4_settleBoast 31 = .ok (.dup2, 1) := by decide +kernel
theorem dX4_settleBoast_32 : decode cX4_settleBoast 32 = .ok (.iaload, 1) := by decide +kernel
theorem dX4_settleBoast_33 : decode cX4_settleBoast 33 = .ok (.iconst 1, 1) := by decide +kernel
theorem dX4_settleBoast_34 : decode cX4_settleBoast 34 = .ok (.iadd, 1) := by decide +kernel
theorem dX4_settleBoast_35 : decode cX4_settleBoast 35 = .ok (.iastore, 1) := by decide +kernel
theorem dX4_settleBoast_36 : decode cX4_settleBoast 36 = .ok (.aload_n 0, 1) := by decide +kernel
theorem dX4_settleBoast_37 : decode cX4_settleBoast 37 = .ok (.getfield 33, 3) := by decide +kernel
theorem dX4_settleBoast_40 : decode cX4_settleBoast 40 = .ok (.iload_n 2, 1) := by decide +kernel
theorem dX4_settleBoast_41 : decode cX4_settleBoast 41 = .ok (.bipush (-5), 2) := by decide +kernel
theorem dX4_settleBoast_43 : decode cX4_settleBoast 43 = .ok (.iastore, 1) := by decide +kernel
theorem dX4_settleBoast_44 : decode cX4_settleBoast 44 = .ok (.iload_n 3, 1) := by decide +kernel
theorem dX4_settleBoast_45 : decode cX4_settleBoast 45 = .ok (.ireturn, 1) := by decide +kernel
set_option maxRecDepth 20000 in
theorem ggX4_hit_X4_quotient : GoodIn wsX4_hit wsX4_quotient := goodIn_r _ [12] (by decide +kernel) (by decide +kernel)
set_option maxRecDepth 20000 in
theorem gX4_hit_X4_quotient : GoodIn wsX4_hit (va_wsS RX4 82 yX4_quotient wsX4_quotient) := goodIn_app (goodIn_of _ (by decide +kernel)) ggX4_hit_X4_quotient
set_option maxRecDepth 20000 in
theorem ggX4_hit_X4_settleSmashes : GoodIn wsX4_hit wsX4_settleSmashes := goodIn_r _ [16, 3, 17, 18, 19, 11, 20, 21, 22, 23, 24, 25, 26, 27, 28, 29, 30, 31, 32, 33, 42, 43, 44, 45, 46, 47, 48, 49, 50, 51, 52, 53, 54] (by decide +kernel) (by decide +kernel)
set_option maxRecDepth 20000 in
theorem gX4_hit_X4_settleSmashes : GoodIn wsX4_hit (wsV RX4 91 RX4 yX4_settleSmashes wsX4_settleSmashes) := goodIn_app (goodIn_of _ (by decide +kernel)) ggX4_hit_X4_settleSmashes
set_option maxRecDepth 20000 in
theorem ggX4_hit_X4_fallIfWorn : GoodIn wsX4_hit wsX4_fallIfWorn := goodIn_r _ [37, 28, 8, 42, 43, 44, 45, 46, 47, 48, 49, 50, 51, 52, 53, 54] (by decide +kernel) (by decide +kernel)
set_option maxRecDepth 20000 in
theorem gX4_hit_X4_fallIfWorn : GoodIn wsX4_hit (wsV RX4 95 RX4 yX4_fallIfWorn wsX4_fallIfWorn) := goodIn_app (goodIn_of _ (by decide +kernel)) ggX4_hit_X4_fallIfWorn
set_option maxRecDepth 20000 in
theorem ggX4_hit_X4_outcome : GoodIn wsX4_hit wsX4_outcome := goodIn_r _ [41, 28, 42, 43, 44, 45, 46, 47, 48, 49, 50, 51, 52, 53, 54] (by decide +kernel) (by decide +kernel)
set_option maxRecDepth 20000 in
theorem gX4_hit_X4_outcome : GoodIn wsX4_hit (wsV RX4 99 RX4 yX4_outcome wsX4_outcome) := goodIn_app (goodIn_of _ (by decide +kernel)) ggX4_hit_X4_outcome
theorem dX4_hit_0 : decode cX4_hit 0 = .ok (.iload_n 3, 1) := by decide +kernel
theorem dX4_hit_1 : decode cX4_hit 1 = .ok (.aload_n 0, 1) := by decide +kernel
theorem dX4_hit_2 : decode cX4_hit 2 = .ok (.getfield 21, 3) := by decide +kernel
theorem dX4_hit_5 : decode cX4_hit 5 = .ok (.iload_n 1, 1) := by decide +kernel
theorem dX4_hit_6 : decode cX4_hit 6 = .ok (.iaload, 1) := by decide +kernel
theorem dX4_hit_7 : decode cX4_hit 7 = .ok (.imul, 1) := by decide +kernel
theorem dX4_hit_8 : decode cX4_hit 8 = .ok (.aload_n 0, 1) := by decide +kernel
theorem dX4_hit_9 : decode cX4_hit 9 = .ok (.getfield 21, 3) := by decide +kernel
theorem dX4_hit_12 : decode cX4_hit 12 = .ok (.iload_n 2, 1) := by decide +kernel
theorem dX4_hit_13 : decode cX4_hit 13 = .ok (.iaload, 1) := by decide +kernel
theorem dX4_hit_14 : decode cX4_hit 14 = .ok (.invokestatic 82, 3) := by decide +kernel
theorem dX4_hit_17 : decode cX4_hit 17 = .ok (.istore 4, 2) := by decide +kernel
theorem dX4_hit_19 : decode cX4_hit 19 = .ok (.iload_n 3, 1) := by decide +kernel
theorem dX4_hit_20 : decode cX4_hit 20 = .ok (.aload_n 0, 1) := by decide +kernel
theorem dX4_hit_21 : decode cX4_hit 21 = .ok (.getfield 21, 3) := by decide +kernel
theorem dX4_hit_24 : decode cX4_hit 24 = .ok (.iload_n 2, 1) := by decide +kernel
theorem dX4_hit_25 : decode cX4_hit 25 = .ok (.iaload, 1) := by decide +kernel
theorem dX4_hit_26 : decode cX4_hit 26 = .ok (.imul, 1) := by decide +kernel
theorem dX4_hit_27 : decode cX4_hit 27 = .ok (.iconst 2, 1) := by decide +kernel
theorem dX4_hit_28 : decode cX4_hit 28 = .ok (.aload_n 0, 1) := by decide +kernel
theorem dX4_hit_29 : decode cX4_hit 29 = .ok (.getfield 21, 3) := by decide +kernel
theorem dX4_hit_32 : decode cX4_hit 32 = .ok (.iload_n 1, 1) := by decide +kernel
theorem dX4_hit_33 : decode cX4_hit 33 = .ok (.iaload, 1) := by decide +kernel
theorem dX4_hit_34 : decode cX4_hit 34 = .ok (.imul, 1) := by decide +kernel
theorem dX4_hit_35 : decode cX4_hit 35 = .ok (.invokestatic 82, 3) := by decide +kernel
theorem dX4_hit_38 : decode cX4_hit 38 = .ok (.istore 5, 2) := by decide +kernel
theorem dX4_hit_40 : decode cX4_hit 40 = .ok (.aload_n 0, 1) := by decide +kernel
theorem dX4_hit_41 : decode cX4_hit 41 = .ok (.dup, 1) := by decide +kernel
theorem dX4_hit_42 : decode cX4_hit 42 = .ok (.getfield 49, 3) := by decide +kernel
theorem dX4_hit_45 : decode cX4_hit 45 = .ok (.iconst 1, 1) := by decide +kernel
theorem dX4_hit_46 : decode cX4_hit 46 = .ok (.iadd, 1) := by decide +kernel
theorem dX4_hit_47 : decode cX4_hit 47 = .ok (.putfield 49, 3) := by decide +kernel
theorem dX4_hit_50 : decode cX4_hit 50 = .ok (.aload_n 0, 1) := by decide +kernel
theorem dX4_hit_51 : decode cX4_hit 51 = .ok (.getfield 24, 3) := by decide +kernel
theorem dX4_hit_54 : decode cX4_hit 54 = .ok (.iload_n 2, 1) := by decide +kernel
theorem dX4_hit_55 : decode cX4_hit 55 = .ok (.aload_n 0, 1) := by decide +kernel
theorem dX4_hit_56 : decode cX4_hit 56 = .ok (.getfield 24, 3) := by decide +kernel
theorem dX4_hit_59 : decode cX4_hit 59 = .ok (.iload_n 2, 1) := by decide +kernel
theorem dX4_hit_60 : decode cX4_hit 60 = .ok (.iaload, 1) := by decide +kernel
theorem dX4_hit_61 : decode cX4_hit 61 = .ok (.iload 4, 2) := by decide +kernel
theorem dX4_hit_63 : decode cX4_hit 63 = .ok (.iadd, 1) := by decide +kernel
theorem dX4_hit_64 : decode cX4_hit 64 = .ok (.bipush 100, 2) := by decide +kernel
theorem dX4_hit_66 : decode cX4_hit 66 = .ok (.invokestatic 86, 3) := by decide +kernel
theorem dX4_hit_69 : decode cX4_hit 69 = .ok (.iastore, 1) := by decide +kernel
theorem dX4_hit_70 : decode cX4_hit 70 = .ok (.aload_n 0, 1) := by decide +kernel
theorem dX4_hit_71 : decode cX4_hit 71 = .ok (.getfield 24, 3) := by decide +kernel
theorem dX4_hit_74 : decode cX4_hit 74 = .ok (.iload_n 1, 1) := by decide +kernel
theorem dX4_hit_75 : decode cX4_hit 75 = .ok (.aload_n 0, 1) := by decide +kernel
theorem dX4_hit_76 : decode cX4_hit 76 = .ok (.getfield 24, 3) := by decide +kernel
theorem dX4_hit_79 : decode cX4_hit 79 = .ok (.iload_n 1, 1) := by decide +kernel
theorem dX4_hit_80 : decode cX4_hit 80 = .ok (.iaload, 1) := by decide +kernel
theorem dX4_hit_81 : decode cX4_hit 81 = .ok (.iload 5, 2) := by decide +kernel
theorem dX4_hit_83 : decode cX4_hit 83 = .ok (.iadd, 1) := by decide +kernel
theorem dX4_hit_84 : decode cX4_hit 84 = .ok (.bipush 100, 2) := by decide +kernel
theorem dX4_hit_86 : decode cX4_hit 86 = .ok (.invokestatic 86, 3) := by decide +kernel
theorem dX4_hit_89 : decode cX4_hit 89 = .ok (.iastore, 1) := by decide +kernel
theorem dX4_hit_90 : decode cX4_hit 90 = .ok (.aload_n 0, 1) := by decide +kernel
theorem dX4_hit_91 : decode cX4_hit 91 = .ok (.getfield 27, 3) := by decide +kernel
theorem dX4_hit_94 : decode cX4_hit 94 = .ok (.iload_n 1, 1) := by decide +kernel
theorem dX4_hit_95 : decode cX4_hit 95 = .ok (.aload_n 0, 1) := by decide +kernel
theorem dX4_hit_96 : decode cX4_hit 96 = .ok (.getfield 27, 3) := by decide +kernel
theorem dX4_hit_99 : decode cX4_hit 99 = .ok (.iload_n 1, 1) := by decide +kernel
theorem dX4_hit_100 : decode cX4_hit 100 = .ok (.iaload, 1) := by decide +kernel
