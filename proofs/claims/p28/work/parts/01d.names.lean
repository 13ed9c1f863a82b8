theorem dX4_hit_101 : decode cX4_hit 101 = .ok (.iload_n 3, 1) := by decide +kernel
theorem dX4_hit_102 : decode cX4_hit 102 = .ok (.bipush 6, 2) := by decide +kernel
theorem dX4_hit_104 : decode cX4_hit 104 = .ok (.if_icmp .le 7, 3) := by decide +kernel
theorem dX4_hit_107 : decode cX4_hit 107 = .ok (.iconst 2, 1) := by decide +kernel
theorem dX4_hit_108 : decode cX4_hit 108 = .ok (.goto 4, 3) := by decide +kernel
theorem dX4_hit_111 : decode cX4_hit 111 = .ok (.iconst 1, 1) := by decide +kernel
theorem dX4_hit_112 : decode cX4_hit 112 = .ok (.iadd, 1) := by decide +kernel
theorem dX4_hit_113 : decode cX4_hit 113 = .ok (.bipush 20, 2) := by decide +kernel
theorem dX4_hit_115 : decode cX4_hit 115 = .ok (.invokestatic 86, 3) := by decide +kernel
theorem dX4_hit_118 : decode cX4_hit 118 = .ok (.iastore, 1) := by decide +kernel
theorem dX4_hit_119 : decode cX4_hit 119 = .ok (.aload_n 0, 1) := by decide +kernel
theorem dX4_hit_120 : decode cX4_hit 120 = .ok (.getfield 27, 3) := by decide +kernel
theorem dX4_hit_123 : decode cX4_hit 123 = .ok (.iload_n 2, 1) := by decide +kernel
theorem dX4_hit_124 : decode cX4_hit 124 = .ok (.aload_n 0, 1) := by decide +kernel
theorem dX4_hit_125 : decode cX4_hit 125 = .ok (.getfield 27, 3) := by decide +kernel
theorem dX4_hit_128 : decode cX4_hit 128 = .ok (.iload_n 2, 1) := by decide +kernel
theorem dX4_hit_129 : decode cX4_hit 129 = .ok (.iaload, 1) := by decide +kernel
theorem dX4_hit_130 : decode cX4_hit 130 = .ok (.iconst 1, 1) := by decide +kernel
theorem dX4_hit_131 : decode cX4_hit 131 = .ok (.iadd, 1) := by decide +kernel
theorem dX4_hit_132 : decode cX4_hit 132 = .ok (.bipush 20, 2) := by decide +kernel
theorem dX4_hit_134 : decode cX4_hit 134 = .ok (.invokestatic 86, 3) := by decide +kernel
theorem dX4_hit_137 : decode cX4_hit 137 = .ok (.iastore, 1) := by decide +kernel
theorem dX4_hit_138 : decode cX4_hit 138 = .ok (.aload_n 0, 1) := by decide +kernel
theorem dX4_hit_139 : decode cX4_hit 139 = .ok (.iload_n 1, 1) := by decide +kernel
theorem dX4_hit_140 : decode cX4_hit 140 = .ok (.iload_n 2, 1) := by decide +kernel
theorem dX4_hit_141 : decode cX4_hit 141 = .ok (.invokevirtual 91, 3) := by decide +kernel
theorem dX4_hit_144 : decode cX4_hit 144 = .ok (.aload_n 0, 1) := by decide +kernel
theorem dX4_hit_145 : decode cX4_hit 145 = .ok (.iload_n 1, 1) := by decide +kernel
theorem dX4_hit_146 : decode cX4_hit 146 = .ok (.invokevirtual 95, 3) := by decide +kernel
theorem dX4_hit_149 : decode cX4_hit 149 = .ok (.aload_n 0, 1) := by decide +kernel
theorem dX4_hit_150 : decode cX4_hit 150 = .ok (.iload_n 2, 1) := by decide +kernel
theorem dX4_hit_151 : decode cX4_hit 151 = .ok (.invokevirtual 95, 3) := by decide +kernel
theorem dX4_hit_154 : decode cX4_hit 154 = .ok (.aload_n 0, 1) := by decide +kernel
theorem dX4_hit_155 : decode cX4_hit 155 = .ok (.iload_n 1, 1) := by decide +kernel
theorem dX4_hit_156 : decode cX4_hit 156 = .ok (.iconst 1, 1) := by decide +kernel
theorem dX4_hit_157 : decode cX4_hit 157 = .ok (.iconst 4, 1) := by decide +kernel
theorem dX4_hit_158 : decode cX4_hit 158 = .ok (.invokevirtual 99, 3) := by decide +kernel
theorem dX4_hit_161 : decode cX4_hit 161 = .ok (.aload_n 0, 1) := by decide +kernel
theorem dX4_hit_162 : decode cX4_hit 162 = .ok (.iload_n 2, 1) := by decide +kernel
theorem dX4_hit_163 : decode cX4_hit 163 = .ok (.iconst 2, 1) := by decide +kernel
theorem dX4_hit_164 : decode cX4_hit 164 = .ok (.bipush 8, 2) := by decide +kernel
theorem dX4_hit_166 : decode cX4_hit 166 = .ok (.invokevirtual 99, 3) := by decide +kernel
theorem dX4_hit_169 : decode cX4_hit 169 = .ok (.iadd, 1) := by decide +kernel
theorem dX4_hit_170 : decode cX4_hit 170 = .ok (.ireturn, 1) := by decide +kernel
set_option maxRecDepth 20000 in
theorem ggX4_fight_X4_areInPlay : GoodIn wsX4_fight wsX4_areInPlay := goodIn_r _ [12, 13, 64, 65, 66, 67, 68, 69, 70, 71, 72, 73, 74, 75, 76] (by decide +kernel) (by decide +kernel)
set_option maxRecDepth 20000 in
theorem gX4_fight_X4_areInPlay : GoodIn wsX4_fight (wsV RX4 71 RX4 yX4_areInPlay wsX4_areInPlay) := goodIn_app (goodIn_of _ (by decide +kernel)) ggX4_fight_X4_areInPlay
set_option maxRecDepth 20000 in
theorem ggX4_fight_X0_swing : GoodIn wsX4_fight wsX0_swing := goodIn_r _ [18, 19, 20, 21, 17, 22, 23, 24, 77] (by decide +kernel) (by decide +kernel)
set_option maxRecDepth 20000 in
theorem gX4_fight_X0_swing : GoodIn wsX4_fight (wsV RX4 106 RX0 yX0_swing wsX0_swing) := goodIn_app (goodIn_of _ (by decide +kernel)) ggX4_fight_X0_swing
set_option maxRecDepth 20000 in
theorem ggX4_fight_X4_hit : GoodIn wsX4_fight wsX4_hit := goodIn_r _ [28, 29, 30, 31, 1, 2, 3, 4, 32, 33, 34, 11, 35, 36, 37, 38, 39, 40, 41, 42, 43, 44, 45, 46, 47, 48, 49, 50, 13, 51, 52, 53, 54, 55, 56, 57, 58, 59, 60, 61, 62, 63, 64, 65, 66, 67, 68, 69, 70, 71, 72, 73, 74, 75, 76] (by decide +kernel) (by decide +kernel)
set_option maxRecDepth 20000 in
theorem gX4_fight_X4_hit : GoodIn wsX4_fight (wsV RX4 112 RX4 yX4_hit wsX4_hit) := goodIn_app (goodIn_of _ (by decide +kernel)) ggX4_fight_X4_hit
theorem dX4_fight_0 : decode cX4_fight 0 = .ok (.iload_n 1, 1) := by decide +kernel
theorem dX4_fight_1 : decode cX4_fight 1 = .ok (.iload_n 2, 1) := by decide +kernel
theorem dX4_fight_2 : decode cX4_fight 2 = .ok (.invokestatic 86, 3) := by decide +kernel
theorem dX4_fight_5 : decode cX4_fight 5 = .ok (.istore 4, 2) := by decide +kernel
theorem dX4_fight_7 : decode cX4_fight 7 = .ok (.iload_n 1, 1) := by decide +kernel
theorem dX4_fight_8 : decode cX4_fight 8 = .ok (.iload_n 2, 1) := by decide +kernel
theorem dX4_fight_9 : decode cX4_fight 9 = .ok (.invokestatic 103, 3) := by decide +kernel
theorem dX4_fight_12 : decode cX4_fight 12 = .ok (.istore 5, 2) := by decide +kernel
theorem dX4_fight_14 : decode cX4_fight 14 = .ok (.iconst 0, 1) := by decide +kernel
theorem dX4_fight_15 : decode cX4_fight 15 = .ok (.istore 6, 2) := by decide +kernel
theorem dX4_fight_17 : decode cX4_fight 17 = .ok (.iload 6, 2) := by decide +kernel
theorem dX4_fight_19 : decode cX4_fight 19 = .ok (.bipush 20, 2) := by decide +kernel
theorem dX4_fight_21 : decode cX4_fight 21 = .ok (.if_icmp .ge 45, 3) := by decide +kernel
theorem dX4_fight_24 : decode cX4_fight 24 = .ok (.aload_n 0, 1) := by decide +kernel
theorem dX4_fight_25 : decode cX4_fight 25 = .ok (.iload 4, 2) := by decide +kernel
theorem dX4_fight_27 : decode cX4_fight 27 = .ok (.iload 5, 2) := by decide +kernel
theorem dX4_fight_29 : decode cX4_fight 29 = .ok (.invokevirtual 71, 3) := by decide +kernel
theorem dX4_fight_32 : decode cX4_fight 32 = .ok (.ifCond .eq 34, 3) := by decide +kernel
theorem dX4_fight_35 : decode cX4_fight 35 = .ok (.aload_n 0, 1) := by decide +kernel
theorem dX4_fight_36 : decode cX4_fight 36 = .ok (.iload 4, 2) := by decide +kernel
theorem dX4_fight_38 : decode cX4_fight 38 = .ok (.iload 5, 2) := by decide +kernel
theorem dX4_fight_40 : decode cX4_fight 40 = .ok (.aload_n 3, 1) := by decide +kernel
theorem dX4_fight_41 : decode cX4_fight 41 = .ok (.invokevirtual 106, 3) := by decide +kernel
theorem dX4_fight_44 : decode cX4_fight 44 = .ok (.invokevirtual 112, 3) := by decide +kernel
theorem dX4_fight_47 : decode cX4_fight 47 = .ok (.pop, 1) := by decide +kernel
theorem dX4_fight_48 : decode cX4_fight 48 = .ok (.iload 5, 2) := by decide +kernel
theorem dX4_fight_50 : decode cX4_fight 50 = .ok (.istore 7, 2) := by decide +kernel
theorem dX4_fight_52 : decode cX4_fight 52 = .ok (.iload 4, 2) := by decide +kernel
theorem dX4_fight_54 : decode cX4_fight 54 = .ok (.istore 5, 2) := by decide +kernel
theorem dX4_fight_56 : decode cX4_fight 56 = .ok (.iload 7, 2) := by decide +kernel
theorem dX4_fight_58 : decode cX4_fight 58 = .ok (.istore 4, 2) := by decide +kernel
theorem dX4_fight_60 : decode cX4_fight 60 = .ok (.iinc 6 1, 3) := by decide +kernel
theorem dX4_fight_63 : decode cX4_fight 63 = .ok (.goto (-46), 3) := by decide +kernel
theorem dX4_fight_66 : decode cX4_fight 66 = .ok (.iload 6, 2) := by decide +kernel
theorem dX4_fight_68 : decode cX4_fight 68 = .ok (.ireturn, 1) := by decide +kernel
set_option maxRecDepth 20000 in
theorem ggX4_settleSmashes_X4_crush : GoodIn wsX4_settleSmashes wsX4_crush := goodIn_r _ [6, 7, 8, 9, 10, 5, 11, 12, 13, 14, 20, 21, 22, 23, 24, 25, 26, 27, 28, 29, 30, 31, 32] (by decide +kernel) (by decide +kernel)
set_option maxRecDepth 20000 in
theorem gX4_settleSmashes_X4_crush : GoodIn wsX4_settleSmashes (wsV RX4 115 RX4 yX4_crush wsX4_crush) := goodIn_app (goodIn_of _ (by decide +kernel)) ggX4_settleSmashes_X4_crush
set_option maxRecDepth 20000 in
theorem ggX4_settleSmashes_X4_inherit : GoodIn wsX4_settleSmashes wsX4_inherit := goodIn_r _ [18, 12, 19, 8, 9, 10, 5, 11, 13, 14, 20, 21, 22, 23, 24, 25, 26, 27, 28, 29, 30, 31, 32] (by decide +kernel) (by decide +kernel)
set_option maxRecDepth 20000 in
theorem gX4_settleSmashes_X4_inherit : GoodIn wsX4_settleSmashes (wsV RX4 118 RX4 yX4_inherit wsX4_inherit) := goodIn_app (goodIn_of _ (by decide +kernel)) ggX4_settleSmashes_X4_inherit
theorem dX4_settleSmashes_0 : decode cX4_settleSmashes 0 = .ok (.aload_n 0, 1) := by decide +kernel
theorem dX4_settleSmashes_1 : decode cX4_settleSmashes 1 = .ok (.getfield 24, 3) := by decide +kernel
theorem dX4_settleSmashes_4 : decode cX4_settleSmashes 4 = .ok (.iload_n 1, 1) := by decide +kernel
theorem dX4_settleSmashes_5 : decode cX4_settleSmashes 5 = .ok (.iaload, 1) := by decide +kernel
theorem dX4_settleSmashes_6 : decode cX4_settleSmashes 6 = .ok (.bipush 100, 2) := by decide +kernel
theorem dX4_settleSmashes_8 : decode cX4_settleSmashes 8 = .ok (.if_icmp .ne 7, 3) := by decide +kernel
theorem dX4_settleSmashes_11 : decode cX4_settleSmashes 11 = .ok (.iconst 1, 1) := by decide +kernel
theorem dX4_settleSmashes_12 : decode cX4_settleSmashes 12 = .ok (.goto 4, 3) := by decide +kernel
theorem dX4_settleSmashes_15 : decode cX4_settleSmashes 15 = .ok (.iconst 0, 1) := by decide +kernel
theorem dX4_settleSmashes_16 : decode cX4_settleSmashes 16 = .ok (.istore_n 3, 1) := by decide +kernel
theorem dX4_settleSmashes_17 : decode cX4_settleSmashes 17 = .ok (.aload_n 0, 1) := by decide +kernel
theorem dX4_settleSmashes_18 : decode cX4_settleSmashes 18 = .ok (.getfield 24, 3) := by decide +kernel
theorem dX4_settleSmashes_21 : decode cX4_settleSmashes 21 = .ok (.iload_n 2, 1) := by decide +kernel
theorem dX4_settleSmashes_22 : decode cX4_settleSmashes 22 = .ok (.iaload, 1) := by decide +kernel
theorem dX4_settleSmashes_23 : decode cX4_settleSmashes 23 = .ok (.bipush 100, 2) := by decide +kernel
theorem dX4_settleSmashes_25 : decode cX4_settleSmashes 25 = .ok (.if_icmp .ne 7, 3) := by decide +kernel
theorem dX4_settleSmashes_28 : decode cX4_settleSmashes 28 = .ok (.iconst 1, 1) := by decide +kernel
theorem dX4_settleSmashes_29 : decode cX4_settleSmashes 29 = .ok (.goto 4, 3) := by decide +kernel
theorem dX4_settleSmashes_32 : decode cX4_settleSmashes 32 = .ok (.iconst 0, 1) := by decide +kernel
theorem dX4_settleSmashes_33 : decode cX4_settleSmashes 33 = .ok (.istore 4, 2) := by decide +kernel
theorem dX4_settleSmashes_35 : decode cX4_settleSmashes 35 = .ok (.iload_n 3, 1) := by decide +kernel
theorem dX4_settleSmashes_36 : decode cX4_settleSmashes 36 = .ok (.ifCond .eq 23, 3) := by decide +kernel
theorem dX4_settleSmashes_39 : decode cX4_settleSmashes 39 = .ok (.iload 4, 2) := by decide +kernel
theorem dX4_settleSmashes_41 : decode cX4_settleSmashes 41 = .ok (.ifCond .eq 18, 3) := by decide +kernel
theorem dX4_settleSmashes_44 : decode cX4_settleSmashes 44 = .ok (.aload_n 0, 1) := by decide +kernel
theorem dX4_settleSmashes_45 : decode cX4_settleSmashes 45 = .ok (.iload_n 1, 1) := by decide +kernel
theorem dX4_settleSmashes_46 : decode cX4_settleSmashes 46 = .ok (.invokevirtual 115, 3) := by decide +kernel
theorem dX4_settleSmashes_49 : decode cX4_settleSmashes 49 = .ok (.pop, 1) := by decide +kernel
theorem dX4_settleSmashes_50 : decode cX4_settleSmashes 50 = .ok (.aload_n 0, 1) := by decide +kernel
theorem dX4_settleSmashes_51 : decode cX4_settleSmashes 51 = .ok (.iload_n 2, 1) := by decide +kernel
theorem dX4_settleSmashes_52 : decode cX4_settleSmashes 52 = .ok (.invokevirtual 115, 3) := by decide +kernel
theorem dX4_settleSmashes_55 : decode cX4_settleSmashes 55 = .ok (.pop, 1) := by decide +kernel
theorem dX4_settleSmashes_56 : decode cX4_settleSmashes 56 = .ok (.goto 27, 3) := by decide +kernel
theorem dX4_settleSmashes_59 : decode cX4_settleSmashes 59 = .ok (.iload_n 3, 1) := by decide +kernel
theorem dX4_settleSmashes_60 : decode cX4_settleSmashes 60 = .ok (.ifCond .eq 12, 3) := by decide +kernel
theorem dX4_settleSmashes_63 : decode cX4_settleSmashes 63 = .ok (.aload_n 0, 1) := by decide +kernel
theorem dX4_settleSmashes_64 : decode cX4_settleSmashes 64 = .ok (.iload_n 2, 1) := by decide +kernel
theorem dX4_settleSmashes_65 : decode cX4_settleSmashes 65 = .ok (.iload_n 1, 1) := by decide +kernel
theorem dX4_settleSmashes_66 : decode cX4_settleSmashes 66 = .ok (.invokevirtual 118, 3) := by decide +kernel
theorem dX4_settleSmashes_69 : decode cX4_settleSmashes 69 = .ok (.goto 14, 3) := by decide +kernel
theorem dX4_settleSmashes_72 : decode cX4_settleSmashes 72 = .ok (.iload 4, 2) := by decide +kernel
theorem dX4_settleSmashes_74 : decode cX4_settleSmashes 74 = .ok (.ifCond .eq 9, 3) := by decide +kernel
theorem dX4_settleSmashes_77 : decode cX4_settleSmashes 77 = .ok (.aload_n 0, 1) := by decide +kernel
theorem dX4_settleSmashes_78 : decode cX4_settleSmashes 78 = .ok (.iload_n 1, 1) := by decide +kernel
theorem dX4_settleSmashes_79 : decode cX4_settleSmashes 79 = .ok (.iload_n 2, 1) := by decide +kernel
theorem dX4_settleSmashes_80 : decode cX4_settleSmashes 80 = .ok (.invokevirtual 118, 3) := by decide +kernel
theorem dX4_settleSmashes_83 : decode cX4_settleSmashes 83 = .ok (.return_, 1) := by decide +kernel
set_option maxRecDepth 20000 in
theorem ggX4_inherit_X4_takeVictoriesOfSmashed : GoodIn wsX4_inherit wsX4_takeVictoriesOfSmashed := goodIn_r _ [7, 1, 8, 9, 10, 11, 12, 13, 14, 15, 16, 17, 18, 19, 20, 21, 22] (by decide +kernel) (by decide +kernel)
set_option maxRecDepth 20000 in
theorem gX4_inherit_X4_takeVictoriesOfSmashed : GoodIn wsX4_inherit (wsV RX4 79 RX4 yX4_takeVictoriesOfSmashed wsX4_takeVictoriesOfSmashed) := goodIn_app (goodIn_of _ (by decide +kernel)) ggX4_inherit_X4_takeVictoriesOfSmashed
theorem dX4_inherit_0 : decode cX4_inherit 0 = .ok (.aload_n 0, 1) := by decide +kernel
theorem dX4_inherit_1 : decode cX4_inherit 1 = .ok (.getfield 30, 3) := by decide +kernel
theorem dX4_inherit_4 : decode cX4_inherit 4 = .ok (.iload_n 1, 1) := by decide +kernel
theorem dX4_inherit_5 : decode cX4_inherit 5 = .ok (.dup2, 1) := by decide +kernel
theorem dX4_inherit_6 : decode cX4_inherit 6 = .ok (.iaload, 1) := by decide +kernel
theorem dX4_inherit_7 : decode cX4_inherit 7 = .ok (.iconst 1, 1) := by decide +kernel
theorem dX4_inherit_8 : decode cX4_inherit 8 = .ok (.aload_n 0, 1) := by decide +kernel
theorem dX4_inherit_9 : decode cX4_inherit 9 = .ok (.iload_n 2, 1) := by decide +kernel
theorem dX4_inherit_10 : decode cX4_inherit 10 = .ok (.invokevirtual 79, 3) := by decide +kernel
theorem dX4_inherit_13 : decode cX4_inherit 13 = .ok (.iadd, 1) := by decide +kernel
theorem dX4_inherit_14 : decode cX4_inherit 14 = .ok (.iadd, 1) := by decide +kernel
theorem dX4_inherit_15 : decode cX4_inherit 15 = .ok (.iastore, 1) := by decide +kernel
theorem dX4_inherit_16 : decode cX4_inherit 16 = .ok (.aload_n 0, 1) := by decide +kernel
theorem dX4_inherit_17 : decode cX4_inherit 17 = .ok (.getfield 39, 3) := by decide +kernel
theorem dX4_inherit_20 : decode cX4_inherit 20 = .ok (.iload_n 2, 1) := by decide +kernel
theorem dX4_inherit_21 : decode cX4_inherit 21 = .ok (.iload_n 1, 1) := by decide +kernel
theorem dX4_inherit_22 : decode cX4_inherit 22 = .ok (.iastore, 1) := by decide +kernel
theorem dX4_inherit_23 : decode cX4_inherit 23 = .ok (.return_, 1) := by decide +kernel
theorem dX4_takeVictoriesOfSmashed_0 : decode cX4_takeVictoriesOfSmashed 0 = .ok (.aload_n 0, 1) := by decide +kernel
theorem dX4_takeVictoriesOfSmashed_1 : decode cX4_takeVictoriesOfSmashed 1 = .ok (.getfield 30, 3) := by decide +kernel
theorem dX4_takeVictoriesOfSmashed_4 : decode cX4_takeVictoriesOfSmashed 4 = .ok (.iload_n 1, 1) := by decide +kernel
theorem dX4_takeVictoriesOfSmashed_5 : decode cX4_takeVictoriesOfSmashed 5 = .ok (.iaload, 1) := by decide +kernel
theorem dX4_takeVictoriesOfSmashed_6 : decode cX4_takeVictoriesOfSmashed 6 = .ok (.istore_n 2, 1) := by decide +kernel
theorem dX4_takeVictoriesOfSmashed_7 : decode cX4_takeVictoriesOfSmashed 7 = .ok (.aload_n 0, 1) := by decide +kernel
theorem dX4_takeVictoriesOfSmashed_8 : decode cX4_takeVictoriesOfSmashed 8 = .ok (.getfield 30, 3) := by decide +kernel
theorem dX4_takeVictoriesOfSmashed_11 : decode cX4_takeVictoriesOfSmashed 11 = .ok (.iload_n 1, 1) := by decide +kernel
theorem dX4_takeVictoriesOfSmashed_12 : decode cX4_takeVictoriesOfSmashed 12 = .ok (.iconst 0, 1) := by decide +kernel
theorem dX4_takeVictoriesOfSmashed_13 : decode cX4_takeVictoriesOfSmashed 13 = .ok (.iastore, 1) := by decide +kernel
theorem dX4_takeVictoriesOfSmashed_14 : decode cX4_takeVictoriesOfSmashed 14 = .ok (.aload_n 0, 1) := by decide +kernel
theorem dX4_takeVictoriesOfSmashed_15 : decode cX4_takeVictoriesOfSmashed 15 = .ok (.getfield 33, 3) := by decide +kernel
theorem dX4_takeVictoriesOfSmashed_18 : decode cX4_takeVictoriesOfSmashed 18 = .ok (.iload_n 1, 1) := by decide +kernel
theorem dX4_takeVictoriesOfSmashed_19 : decode cX4_takeVictoriesOfSmashed 19 = .ok (.bipush (-5), 2) := by decide +kernel
theorem dX4_takeVictoriesOfSmashed_21 : decode cX4_takeVictoriesOfSmashed 21 = .ok (.iastore, 1) := by decide +kernel
theorem dX4_takeVictoriesOfSmashed_22 : decode cX4_takeVictoriesOfSmashed 22 = .ok (.aload_n 0, 1) := by decide +kernel
theorem dX4_takeVictoriesOfSmashed_23 : decode cX4_takeVictoriesOfSmashed 23 = .ok (.getfield 36, 3) := by decide +kernel
theorem dX4_takeVictoriesOfSmashed_26 : decode cX4_takeVictoriesOfSmashed 26 = .ok (.iload_n 1, 1) := by decide +kernel
theorem dX4_takeVictoriesOfSmashed_27 : decode cX4_takeVictoriesOfSmashed 27 = .ok (.iconst 2, 1) := by decide +kernel
theorem dX4_takeVictoriesOfSmashed_28 : decode cX4_takeVictoriesOfSmashed 28 = .ok (.iastore, 1) := by decide +kernel
theorem dX4_takeVictoriesOfSmashed_29 : decode cX4_takeVictoriesOfSmashed 29 = .ok (.iload_n 2, 1) := by decide +kernel
theorem dX4_takeVictoriesOfSmashed_30 : decode cX4_takeVictoriesOfSmashed 30 = .ok (.ireturn, 1) := by decide +kernel
theorem dX4_fallIfWorn_0 : decode cX4_fallIfWorn 0 = .ok (.aload_n 0, 1) := by decide +kernel
theorem dX4_fallIfWorn_1 : decode cX4_fallIfWorn 1 = .ok (.getfield 36, 3) := by decide +kernel
theorem dX4_fallIfWorn_4 : decode cX4_fallIfWorn 4 = .ok (.iload_n 1, 1) := by decide +kernel
theorem dX4_fallIfWorn_5 : decode cX4_fallIfWorn 5 = .ok (.iaload, 1) := by decide +kernel
theorem dX4_fallIfWorn_6 : decode cX4_fallIfWorn 6 = .ok (.ifCond .ne 21, 3) := by decide +kernel
theorem dX4_fallIfWorn_9 : decode cX4_fallIfWorn 9 = .ok (.aload_n 0, 1) := by decide +kernel
theorem dX4_fallIfWorn_10 : decode cX4_fallIfWorn 10 = .ok (.getfield 27, 3) := by decide +kernel
theorem dX4_fallIfWorn_13 : decode cX4_fallIfWorn 13 = .ok (.iload_n 1, 1) := by decide +kernel
theorem dX4_fallIfWorn_14 : decode cX4_fallIfWorn 14 = .ok (.iaload, 1) := by decide +kernel
theorem dX4_fallIfWorn_15 : decode cX4_fallIfWorn 15 = .ok (.bipush 20, 2) := by decide +kernel
theorem dX4_fallIfWorn_17 : decode cX4_fallIfWorn 17 = .ok (.if_icmp .ne 10, 3) := by decide +kernel
theorem dX4_fallIfWorn_20 : decode cX4_fallIfWorn 20 = .ok (.aload_n 0, 1) := by decide +kernel
theorem dX4_fallIfWorn_21 : decode cX4_fallIfWorn 21 = .ok (.getfield 36, 3) := by decide +kernel
theorem dX4_fallIfWorn_24 : decode cX4_fallIfWorn 24 = .ok (.iload_n 1, 1) := by decide +kernel
theorem dX4_fallIfWorn_25 : decode cX4_fallIfWorn 25 = .ok (.iconst 1, 1) := by decide +kernel
theorem dX4_fallIfWorn_26 : decode cX4_fallIfWorn 26 = .ok (.iastore, 1) := by decide +kernel
theorem dX4_fallIfWorn_27 : decode cX4_fallIfWorn 27 = .ok (.return_, 1) := by decide +kernel
theorem dX4_outcome_0 : decode cX4_outcome 0 = .ok (.aload_n 0, 1) := by decide +kernel
theorem dX4_outcome_1 : decode cX4_outcome 1 = .ok (.getfield 36, 3) := by decide +kernel
theorem dX4_outcome_4 : decode cX4_outcome 4 = .ok (.iload_n 1, 1) := by decide +kernel
theorem dX4_outcome_5 : decode cX4_outcome 5 = .ok (.iaload, 1) := by decide +kernel
theorem dX4_outcome_6 : decode cX4_outcome 6 = .ok (.iconst 2, 1) := by decide +kernel
theorem dX4_outcome_7 : decode cX4_outcome 7 = .ok (.if_icmp .ne 5, 3) := by decide +kernel
theorem dX4_outcome_10 : decode cX4_outcome 10 = .ok (.iload_n 2, 1) := by decide +kernel
theorem dX4_outcome_11 : decode cX4_outcome 11 = .ok (.ireturn, 1) := by decide +kernel
theorem dX4_outcome_12 : decode cX4_outcome 12 = .ok (.aload_n 0, 1) := by decide +kernel
theorem dX4_outcome_13 : decode cX4_outcome 13 = .ok (.getfield 36, 3) := by decide +kernel
theorem dX4_outcome_16 : decode cX4_outcome 16 = .ok (.iload_n 1, 1) := by decide +kernel
theorem dX4_outcome_17 : decode cX4_outcome 17 = .ok (.iaload, 1) := by decide +kernel
theorem dX4_outcome_18 : decode cX4_outcome 18 = .ok (.iconst 1, 1) := by decide +kernel
theorem dX4_outcome_19 : decode cX4_outcome 19 = .ok (.if_icmp .ne 7, 3) := by decide +kernel
theorem dX4_outcome_22 : decode cX4_outcome 22 = .ok (.iload_n 3, 1) := by decide +kernel
theorem dX4_outcome_23 : decode cX4_outcome 23 = .ok (.goto 4, 3) := by decide +kernel
theorem dX4_outcome_26 : decode cX4_outcome 26 = .ok (.iconst 0, 1) := by decide +kernel
theorem dX4_outcome_27 : decode cX4_outcome 27 = .ok (.ireturn, 1) := by decide +kernel
theorem dX4_quotient_0 : decode cX4_quotient 0 = .ok (.iload_n 1, 1) := by decide +kernel
theorem dX4_quotient_1 : decode cX4_quotient 1 = .ok (.iconst 1, 1) := by decide +kernel
theorem dX4_quotient_2 : decode cX4_quotient 2 = .ok (.if_icmp .ge 7, 3) := by decide +kernel
theorem dX4_quotient_5 : decode cX4_quotient 5 = .ok (.iconst 0, 1) := by decide +kernel
theorem dX4_quotient_6 : decode cX4_quotient 6 = .ok (.goto 6, 3) := by decide +kernel
theorem dX4_quotient_9 : decode cX4_quotient 9 = .ok (.iload_n 0, 1) := by decide +kernel
theorem dX4_quotient_10 : decode cX4_quotient 10 = .ok (.iload_n 1, 1) := by decide +kernel
theorem dX4_quotient_11 : decode cX4_quotient 11 = .ok (.idiv, 1) := by decide +kernel
theorem dX4_quotient_12 : decode cX4_quotient 12 = .ok (.ireturn, 1) := by decide +kernel
theorem dX4_areInPlay_0 : decode cX4_areInPlay 0 = .ok (.aload_n 0, 1) := by decide +kernel
theorem dX4_areInPlay_1 : decode cX4_areInPlay 1 = .ok (.getfield 36, 3) := by decide +kernel
theorem dX4_areInPlay_4 : decode cX4_areInPlay 4 = .ok (.iload_n 1, 1) := by decide +kernel
theorem dX4_areInPlay_5 : decode cX4_areInPlay 5 = .ok (.iaload, 1) := by decide +kernel
theorem dX4_areInPlay_6 : decode cX4_areInPlay 6 = .ok (.ifCond .ne 16, 3) := by decide +kernel
theorem dX4_areInPlay_9 : decode cX4_areInPlay 9 = .ok (.aload_n 0, 1) := by decide +kernel
theorem dX4_areInPlay_10 : decode cX4_areInPlay 10 = .ok (.getfield 36, 3) := by decide +kernel
theorem dX4_areInPlay_13 : decode cX4_areInPlay 13 = .ok (.iload_n 2, 1) := by decide +kernel
theorem dX4_areInPlay_14 : decode cX4_areInPlay 14 = .ok (.iaload, 1) := by decide +kernel
theorem dX4_areInPlay_15 : decode cX4_areInPlay 15 = .ok (.ifCond .ne 7, 3) := by decide +kernel
theorem dX4_areInPlay_18 : decode cX4_areInPlay 18 = .ok (.iconst 1, 1) := by decide +kernel
theorem dX4_areInPlay_19 : decode cX4_areInPlay 19 = .ok (.goto 4, 3) := by decide +kernel
theorem dX4_areInPlay_22 : decode cX4_areInPlay 22 = .ok (.iconst 0, 1) := by decide +kernel
theorem dX4_areInPlay_23 : decode cX4_areInPlay 23 = .ok (.ireturn, 1) := by decide +kernel
theorem dX4_isOf_0 : decode cX4_isOf 0 = .ok (.iload_n 2, 1) := by decide +kernel
theorem dX4_isOf_1 : decode cX4_isOf 1 = .ok (.iconst (-1), 1) := by decide +kernel
theorem dX4_isOf_2 : decode cX4_isOf 2 = .ok (.if_icmp .eq 13, 3) := by decide +kernel
theorem dX4_isOf_5 : decode cX4_isOf 5 = .ok (.aload_n 0, 1) := by decide +kernel
theorem dX4_isOf_6 : decode cX4_isOf 6 = .ok (.getfield 18, 3) := by decide +kernel
theorem dX4_isOf_9 : decode cX4_isOf 9 = .ok (.iload_n 1, 1) := by decide +kernel
theorem dX4_isOf_10 : decode cX4_isOf 10 = .ok (.iaload, 1) := by decide +kernel
theorem dX4_isOf_11 : decode cX4_isOf 11 = .ok (.iload_n 2, 1) := by decide +kernel
theorem dX4_isOf_12 : decode cX4_isOf 12 = .ok (.if_icmp .ne 7, 3) := by decide +kernel
theorem dX4_isOf_15 : decode cX4_isOf 15 = .ok (.iconst 1, 1) := by decide +kernel
theorem dX4_isOf_16 : decode cX4_isOf 16 = .ok (.goto 4, 3) := by decide +kernel
theorem dX4_isOf_19 : decode cX4_isOf 19 = .ok (.iconst 0, 1) := by decide +kernel
theorem dX4_isOf_20 : decode cX4_isOf 20 = .ok (.ireturn, 1) := by decide +kernel
set_option maxRecDepth 20000 in
theorem ggX4_conkersBeing_X4_isOf : GoodIn wsX4_conkersBeing wsX4_isOf := goodIn_r _ [7, 8, 9, 10, 11, 12, 13, 14, 15, 16, 17, 18, 19, 20, 21] (by decide +kernel) (by decide +kernel)
set_option maxRecDepth 20000 in
theorem gX4_conkersBeing_X4_isOf : GoodIn wsX4_conkersBeing (wsV RX4 121 RX4 yX4_isOf wsX4_isOf) := goodIn_app (goodIn_of _ (by decide +kernel)) ggX4_conkersBeing_X4_isOf
theorem dX4_conkersBeing_0 : decode cX4_conkersBeing 0 = .ok (.iconst 0, 1) := by decide +kernel
theorem dX4_conkersBeing_1 : decode cX4_conkersBeing 1 = .ok (.istore_n 3, 1) := by decide +kernel
theorem dX4_conkersBeing_2 : decode cX4_conkersBeing 2 = .ok (.iconst 0, 1) := by decide +kernel
theorem dX4_conkersBeing_3 : decode cX4_conkersBeing 3 = .ok (.istore 4, 2) := by decide +kernel
theorem dX4_conkersBeing_5 : decode cX4_conkersBeing 5 = .ok (.iload 4, 2) := by decide +kernel
theorem dX4_conkersBeing_7 : decode cX4_conkersBeing 7 = .ok (.aload_n 0, 1) := by decide +kernel
theorem dX4_conkersBeing_8 : decode cX4_conkersBeing 8 = .ok (.getfield 42, 3) := by decide +kernel
theorem dX4_conkersBeing_11 : decode cX4_conkersBeing 11 = .ok (.if_icmp .ge 33, 3) := by decide +kernel
theorem dX4_conkersBeing_14 : decode cX4_conkersBeing 14 = .ok (.aload_n 0, 1) := by decide +kernel
theorem dX4_conkersBeing_15 : decode cX4_conkersBeing 15 = .ok (.getfield 36, 3) := by decide +kernel
theorem dX4_conkersBeing_18 : decode cX4_conkersBeing 18 = .ok (.iload 4, 2) := by decide +kernel
theorem dX4_conkersBeing_20 : decode cX4_conkersBeing 20 = .ok (.iaload, 1) := by decide +kernel
theorem dX4_conkersBeing_21 : decode cX4_conkersBeing 21 = .ok (.iload_n 1, 1) := by decide +kernel
theorem dX4_conkersBeing_22 : decode cX4_conkersBeing 22 = .ok (.if_icmp .ne 16, 3) := by decide +kernel
theorem dX4_conkersBeing_25 : decode cX4_conkersBeing 25 = .ok (.aload_n 0, 1) := by decide +kernel
theorem dX4_conkersBeing_26 : decode cX4_conkersBeing 26 = .ok (.iload 4, 2) := by decide +kernel
theorem dX4_conkersBeing_28 : decode cX4_conkersBeing 28 = .ok (.iload_n 2, 1) := by decide +kernel
theorem dX4_conkersBeing_29 : decode cX4_conkersBeing 29 = .ok (.invokevirtual 121, 3) := by decide +kernel
theorem dX4_conkersBeing_32 : decode cX4_conkersBeing 32 = .ok (.ifCond .eq 6, 3) := by decide +kernel
theorem dX4_conkersBeing_35 : decode cX4_conkersBeing 35 = .ok (.iinc 3 1, 3) := by decide +kernel
theorem dX4_conkersBeing_38 : decode cX4_conkersBeing 38 = .ok (.iinc 4 1, 3) := by decide +kernel
theorem dX4_conkersBeing_41 : decode cX4_conkersBeing 41 = .ok (.goto (-36), 3) := by decide +kernel
theorem dX4_conkersBeing_44 : decode cX4_conkersBeing 44 = .ok (.iload_n 3, 1) := by decide +kernel
theorem dX4_conkersBeing_45 : decode cX4_conkersBeing 45 = .ok (.ireturn, 1) := by decide +kernel
set_option maxRecDepth 20000 in
theorem ggX4_victoriesOf_X4_isOf : GoodIn wsX4_victoriesOf wsX4_isOf := goodIn_r _ [7, 8, 9, 10, 11, 12, 13, 14, 15, 16, 17, 18, 19, 20, 21] (by decide +kernel) (by decide +kernel)
set_option maxRecDepth 20000 in
theorem gX4_victoriesOf_X4_isOf : GoodIn wsX4_victoriesOf (wsV RX4 121 RX4 yX4_isOf wsX4_isOf) := goodIn_app (goodIn_of _ (by decide +kernel)) ggX4_victoriesOf_X4_isOf
theorem dX4_victoriesOf_0 : decode cX4_victoriesOf 0 = .ok (.iconst 0, 1) := by decide +kernel
theorem dX4_victoriesOf_1 : decode cX4_victoriesOf 1 = .ok (.istore_n 2, 1) := by decide +kernel
theorem dX4_victoriesOf_2 : decode cX4_victoriesOf 2 = .ok (.iconst 0, 1) := by decide +kernel
theorem dX4_victoriesOf_3 : decode cX4_victoriesOf 3 = .ok (.istore_n 3, 1) := by decide +kernel
theorem dX4_victoriesOf_4 : decode cX4_victoriesOf 4 = .ok (.iload_n 3, 1) := by decide +kernel
theorem dX4_victoriesOf_5 : decode cX4_victoriesOf 5 = .ok (.aload_n 0, 1) := by decide +kernel
theorem dX4_victoriesOf_6 : decode cX4_victoriesOf 6 = .ok (.getfield 42, 3) := by decide +kernel
theorem dX4_victoriesOf_9 : decode cX4_victoriesOf 9 = .ok (.if_icmp .ge 27, 3) := by decide +kernel
theorem dX4_victoriesOf_12 : decode cX4_victoriesOf 12 = .ok (.aload_n 0, 1) := by decide +kernel
theorem dX4_victoriesOf_13 : decode cX4_victoriesOf 13 = .ok (.iload_n 3, 1) := by decide +kernel
theorem dX4_victoriesOf_14 : decode cX4_victoriesOf 14 = .ok (.iload_n 1, 1) := by decide +kernel
theorem dX4_victoriesOf_15 : decode cX4_victoriesOf 15 = .ok (.invokevirtual 121, 3) := by decide +kernel
theorem dX4_victoriesOf_18 : decode cX4_victoriesOf 18 = .ok (.ifCond .eq 12, 3) := by decide +kernel
theorem dX4_victoriesOf_21 : decode cX4_victoriesOf 21 = .ok (.iload_n 2, 1) := by decide +kernel
theorem dX4_victoriesOf_22 : decode cX4_victoriesOf 22 = .ok (.aload_n 0, 1) := by decide +kernel
theorem dX4_victoriesOf_23 : decode cX4_victoriesOf 23 = .ok (.getfield 30, 3) := by decide +kernel
theorem dX4_victoriesOf_26 : decode cX4_victoriesOf 26 = .ok (.iload_n 3, 1) := by decide +kernel
theorem dX4_victoriesOf_27 : decode cX4_victoriesOf 27 = .ok (.iaload, 1) := by decide +kernel
theorem dX4_victoriesOf_28 : decode cX4_victoriesOf 28 = .ok (.iadd, 1) := by decide +kernel
theorem dX4_victoriesOf_29 : decode cX4_victoriesOf 29 = .ok (.istore_n 2, 1) := by decide +kernel
theorem dX4_victoriesOf_30 : decode cX4_victoriesOf 30 = .ok (.iinc 3 1, 3) := by decide +kernel
theorem dX4_victoriesOf_33 : decode cX4_victoriesOf 33 = .ok (.goto (-29), 3) := by decide +kernel
theorem dX4_victoriesOf_36 : decode cX4_victoriesOf 36 = .ok (.iload_n 2, 1) := by decide +kernel
theorem dX4_victoriesOf_37 : decode cX4_victoriesOf 37 = .ok (.ireturn, 1) := by decide +kernel
theorem dX4_conkerToSend_0 : decode cX4_conkerToSend 0 = .ok (.bipush (-5), 2) := by decide +kernel
theorem dX4_conkerToSend_2 : decode cX4_conkerToSend 2 = .ok (.istore_n 2, 1) := by decide +kernel
theorem dX4_conkerToSend_3 : decode cX4_conkerToSend 3 = .ok (.iconst 0, 1) := by decide +kernel
theorem dX4_conkerToSend_4 : decode cX4_conkerToSend 4 = .ok (.istore_n 3, 1) := by decide +kernel
theorem dX4_conkerToSend_5 : decode cX4_conkerToSend 5 = .ok (.iload_n 3, 1) := by decide +kernel
theorem dX4_conkerToSend_6 : decode cX4_conkerToSend 6 = .ok (.aload_n 0, 1) := by decide +kernel
theorem dX4_conkerToSend_7 : decode cX4_conkerToSend 7 = .ok (.getfield 42, 3) := by decide +kernel
theorem dX4_conkerToSend_10 : decode cX4_conkerToSend 10 = .ok (.if_icmp .ge 49, 3) := by decide +kernel
theorem dX4_conkerToSend_13 : decode cX4_conkerToSend 13 = .ok (.aload_n 0, 1) := by decide +kernel
theorem dX4_conkerToSend_14 : decode cX4_conkerToSend 14 = .ok (.getfield 36, 3) := by decide +kernel
theorem dX4_conkerToSend_17 : decode cX4_conkerToSend 17 = .ok (.iload_n 3, 1) := by decide +kernel
theorem dX4_conkerToSend_18 : decode cX4_conkerToSend 18 = .ok (.iaload, 1) := by decide +kernel
theorem dX4_conkerToSend_19 : decode cX4_conkerToSend 19 = .ok (.ifCond .ne 34, 3) := by decide +kernel
theorem dX4_conkerToSend_22 : decode cX4_conkerToSend 22 = .ok (.aload_n 0, 1) := by decide +kernel
theorem dX4_conkerToSend_23 : decode cX4_conkerToSend 23 = .ok (.getfield 18, 3) := by decide +kernel
theorem dX4_conkerToSend_26 : decode cX4_conkerToSend 26 = .ok (.iload_n 3, 1) := by decide +kernel
theorem dX4_conkerToSend_27 : decode cX4_conkerToSend 27 = .ok (.iaload, 1) := by decide +kernel
theorem dX4_conkerToSend_28 : decode cX4_conkerToSend 28 = .ok (.iload_n 1, 1) := by decide +kernel
theorem dX4_conkerToSend_29 : decode cX4_conkerToSend 29 = .ok (.if_icmp .ne 24, 3) := by decide +kernel
theorem dX4_conkerToSend_32 : decode cX4_conkerToSend 32 = .ok (.iload_n 2, 1) := by decide +kernel
theorem dX4_conkerToSend_33 : decode cX4_conkerToSend 33 = .ok (.ifCond .lt 18, 3) := by decide +kernel
theorem dX4_conkerToSend_36 : decode cX4_conkerToSend 36 = .ok (.aload_n 0, 1) := by decide +kernel
theorem dX4_conkerToSend_37 : decode cX4_conkerToSend 37 = .ok (.getfield 30, 3) := by decide +kernel
theorem dX4_conkerToSend_40 : decode cX4_conkerToSend 40 = .ok (.iload_n 3, 1) := by decide +kernel
theorem dX4_conkerToSend_41 : decode cX4_conkerToSend 41 = .ok (.iaload, 1) := by decide +kernel
theorem dX4_conkerToSend_42 : decode cX4_conkerToSend 42 = .ok (.aload_n 0, 1) := by decide +kernel
theorem dX4_conkerToSend_43 : decode cX4_conkerToSend 43 = .ok (.getfield 30, 3) := by decide +kernel
theorem dX4_conkerToSend_46 : decode cX4_conkerToSend 46 = .ok (.iload_n 2, 1) := by decide +kernel
theorem dX4_conkerToSend_47 : decode cX4_conkerToSend 47 = .ok (.iaload, 1) := by decide +kernel
theorem dX4_conkerToSend_48 : decode cX4_conkerToSend 48 = .ok (.if_icmp .le 5, 3) := by decide +kernel
theorem dX4_conkerToSend_51 : decode cX4_conkerToSend 51 = .ok (.iload_n 3, 1) := by decide +kernel
theorem dX4_conkerToSend_52 : decode cX4_conkerToSend 52 = .ok (.istore_n 2, 1) := by decide +kernel
theorem dX4_conkerToSend_53 : decode cX4_conkerToSend 53 = .ok (.iinc 3 1, 3) := by decide +kernel
theorem dX4_conkerToSend_56 : decode cX4_conkerToSend 56 = .ok (.goto (-51), 3) := by decide +kernel
theorem dX4_conkerToSend_59 : decode cX4_conkerToSend 59 = .ok (.iload_n 2, 1) := by decide +kernel
theorem dX4_conkerToSend_60 : decode cX4_conkerToSend 60 = .ok (.ireturn, 1) := by decide +kernel
set_option maxRecDepth 20000 in
theorem ggX4_conkerAtRank_X4_conkersAheadOf : GoodIn wsX4_conkerAtRank wsX4_conkersAheadOf := goodIn_r _ [7, 1, 8, 2, 9, 10, 11, 12, 13, 14, 15, 16, 17, 18, 19, 20, 21] (by decide +kernel) (by decide +kernel)
set_option maxRecDepth 20000 in
theorem gX4_conkerAtRank_X4_conkersAheadOf : GoodIn wsX4_conkerAtRank (wsV RX4 124 RX4 yX4_conkersAheadOf wsX4_conkersAheadOf) := goodIn_app (goodIn_of _ (by decide +kernel)) ggX4_conkerAtRank_X4_conkersAheadOf
theorem dX4_conkerAtRank_0 : decode cX4_conkerAtRank 0 = .ok (.iconst 0, 1) := by decide +kernel
theorem dX4_conkerAtRank_1 : decode cX4_conkerAtRank 1 = .ok (.istore_n 2, 1) := by decide +kernel
theorem dX4_conkerAtRank_2 : decode cX4_conkerAtRank 2 = .ok (.iload_n 2, 1) := by decide +kernel
theorem dX4_conkerAtRank_3 : decode cX4_conkerAtRank 3 = .ok (.aload_n 0, 1) := by decide +kernel
theorem dX4_conkerAtRank_4 : decode cX4_conkerAtRank 4 = .ok (.getfield 42, 3) := by decide +kernel
theorem dX4_conkerAtRank_7 : decode cX4_conkerAtRank 7 = .ok (.if_icmp .ge 30, 3) := by decide +kernel
theorem dX4_conkerAtRank_10 : decode cX4_conkerAtRank 10 = .ok (.aload_n 0, 1) := by decide +kernel
theorem dX4_conkerAtRank_11 : decode cX4_conkerAtRank 11 = .ok (.getfield 36, 3) := by decide +kernel
theorem dX4_conkerAtRank_14 : decode cX4_conkerAtRank 14 = .ok (.iload_n 2, 1) := by decide +kernel
theorem dX4_conkerAtRank_15 : decode cX4_conkerAtRank 15 = .ok (.iaload, 1) := by decide +kernel
theorem dX4_conkerAtRank_16 : decode cX4_conkerAtRank 16 = .ok (.iconst 2, 1) := by decide +kernel
theorem dX4_conkerAtRank_17 : decode cX4_conkerAtRank 17 = .ok (.if_icmp .eq 14, 3) := by decide +kernel
theorem dX4_conkerAtRank_20 : decode cX4_conkerAtRank 20 = .ok (.aload_n 0, 1) := by decide +kernel
theorem dX4_conkerAtRank_21 : decode cX4_conkerAtRank 21 = .ok (.iload_n 2, 1) := by decide +kernel
theorem dX4_conkerAtRank_22 : decode cX4_conkerAtRank 22 = .ok (.invokevirtual 124, 3) := by decide +kernel
theorem dX4_conkerAtRank_25 : decode cX4_conkerAtRank 25 = .ok (.iload_n 1, 1) := by decide +kernel
theorem dX4_conkerAtRank_26 : decode cX4_conkerAtRank 26 = .ok (.if_icmp .ne 5, 3) := by decide +kernel
theorem dX4_conkerAtRank_29 : decode cX4_conkerAtRank 29 = .ok (.iload_n 2, 1) := by decide +kernel
theorem dX4_conkerAtRank_30 : decode cX4_conkerAtRank 30 = .ok (.ireturn, 1) := by decide +kernel
theorem dX4_conkerAtRank_31 : decode cX4_conkerAtRank 31 = .ok (.iinc 2 1, 3) := by decide +kernel
theorem dX4_conkerAtRank_34 : decode cX4_conkerAtRank 34 = .ok (.goto (-32), 3) := by decide +kernel
theorem dX4_conkerAtRank_37 : decode cX4_conkerAtRank 37 = .ok (.bipush (-5), 2) := by decide +kernel
theorem dX4_conkerAtRank_39 : decode cX4_conkerAtRank 39 = .ok (.ireturn, 1) := by decide +kernel
theorem dX4_conkersAheadOf_0 : decode cX4_conkersAheadOf 0 = .ok (.iconst 0, 1) := by decide +kernel
theorem dX4_conkersAheadOf_1 : decode cX4_conkersAheadOf 1 = .ok (.istore_n 2, 1) := by decide +kernel
theorem dX4_conkersAheadOf_2 : decode cX4_conkersAheadOf 2 = .ok (.iconst 0, 1) := by decide +kernel
theorem dX4_conkersAheadOf_3 : decode cX4_conkersAheadOf 3 = .ok (.istore_n 3, 1) := by decide +kernel
theorem dX4_conkersAheadOf_4 : decode cX4_conkersAheadOf 4 = .ok (.iload_n 3, 1) := by decide +kernel
theorem dX4_conkersAheadOf_5 : decode cX4_conkersAheadOf 5 = .ok (.aload_n 0, 1) := by decide +kernel
theorem dX4_conkersAheadOf_6 : decode cX4_conkersAheadOf 6 = .ok (.getfield 42, 3) := by decide +kernel
theorem dX4_conkersAheadOf_9 : decode cX4_conkersAheadOf 9 = .ok (.if_icmp .ge 81, 3) := by decide +kernel
theorem dX4_conkersAheadOf_12 : decode cX4_conkersAheadOf 12 = .ok (.aload_n 0, 1) := by decide +kernel
theorem dX4_conkersAheadOf_13 : decode cX4_conkersAheadOf 13 = .ok (.getfield 30, 3) := by decide +kernel
theorem dX4_conkersAheadOf_16 : decode cX4_conkersAheadOf 16 = .ok (.iload_n 3, 1) := by decide +kernel
theorem dX4_conkersAheadOf_17 : decode cX4_conkersAheadOf 17 = .ok (.iaload, 1) := by decide +kernel
theorem dX4_conkersAheadOf_18 : decode cX4_conkersAheadOf 18 = .ok (.aload_n 0, 1) := by decide +kernel
theorem dX4_conkersAheadOf_19 : decode cX4_conkersAheadOf 19 = .ok (.getfield 30, 3) := by decide +kernel
theorem dX4_conkersAheadOf_22 : decode cX4_conkersAheadOf 22 = .ok (.iload_n 1, 1) := by decide +kernel
theorem dX4_conkersAheadOf_23 : decode cX4_conkersAheadOf 23 = .ok (.iaload, 1) := by decide +kernel
theorem dX4_conkersAheadOf_24 : decode cX4_conkersAheadOf 24 = .ok (.if_icmp .le 7, 3) := by decide +kernel
theorem dX4_conkersAheadOf_27 : decode cX4_conkersAheadOf 27 = .ok (.iconst 1, 1) := by decide +kernel
theorem dX4_conkersAheadOf_28 : decode cX4_conkersAheadOf 28 = .ok (.goto 4, 3) := by decide +kernel
theorem dX4_conkersAheadOf_31 : decode cX4_conkersAheadOf 31 = .ok (.iconst 0, 1) := by decide +kernel
theorem dX4_conkersAheadOf_32 : decode cX4_conkersAheadOf 32 = .ok (.istore 4, 2) := by decide +kernel
theorem dX4_conkersAheadOf_34 : decode cX4_conkersAheadOf 34 = .ok (.aload_n 0, 1) := by decide +kernel
theorem dX4_conkersAheadOf_35 : decode cX4_conkersAheadOf 35 = .ok (.getfield 30, 3) := by decide +kernel
theorem dX4_conkersAheadOf_38 : decode cX4_conkersAheadOf 38 = .ok (.iload_n 3, 1) := by decide +kernel
theorem dX4_conkersAheadOf_39 : decode cX4_conkersAheadOf 39 = .ok (.iaload, 1) := by decide +kernel
theorem dX4_conkersAheadOf_40 : decode cX4_conkersAheadOf 40 = .ok (.aload_n 0, 1) := by decide +kernel
theorem dX4_conkersAheadOf_41 : decode cX4_conkersAheadOf 41 = .ok (.getfield 30, 3) := by decide +kernel
theorem dX4_conkersAheadOf_44 : decode cX4_conkersAheadOf 44 = .ok (.iload_n 1, 1) := by decide +kernel
theorem dX4_conkersAheadOf_45 : decode cX4_conkersAheadOf 45 = .ok (.iaload, 1) := by decide +kernel
theorem dX4_conkersAheadOf_46 : decode cX4_conkersAheadOf 46 = .ok (.if_icmp .ne 12, 3) := by decide +kernel
theorem dX4_conkersAheadOf_49 : decode cX4_conkersAheadOf 49 = .ok (.iload_n 3, 1) := by decide +kernel
theorem dX4_conkersAheadOf_50 : decode cX4_conkersAheadOf 50 = .ok (.iload_n 1, 1) := by decide +kernel
theorem dX4_conkersAheadOf_51 : decode cX4_conkersAheadOf 51 = .ok (.if_icmp .ge 7, 3) := by decide +kernel
theorem dX4_conkersAheadOf_54 : decode cX4_conkersAheadOf 54 = .ok (.iconst 1, 1) := by decide +kernel
theorem dX4_conkersAheadOf_55 : decode cX4_conkersAheadOf 55 = .ok (.goto 4, 3) := by decide +kernel
theorem dX4_conkersAheadOf_58 : decode cX4_conkersAheadOf 58 = .ok (.iconst 0, 1) := by decide +kernel
theorem dX4_conkersAheadOf_59 : decode cX4_conkersAheadOf 59 = .ok (.istore 5, 2) := by decide +kernel
theorem dX4_conkersAheadOf_61 : decode cX4_conkersAheadOf 61 = .ok (.aload_n 0, 1) := by decide +kernel
theorem dX4_conkersAheadOf_62 : decode cX4_conkersAheadOf 62 = .ok (.getfield 36, 3) := by decide +kernel
theorem dX4_conkersAheadOf_65 : decode cX4_conkersAheadOf 65 = .ok (.iload_n 3, 1) := by decide +kernel
theorem dX4_conkersAheadOf_66 : decode cX4_conkersAheadOf 66 = .ok (.iaload, 1) := by decide +kernel
theorem dX4_conkersAheadOf_67 : decode cX4_conkersAheadOf 67 = .ok (.iconst 2, 1) := by decide +kernel
theorem dX4_conkersAheadOf_68 : decode cX4_conkersAheadOf 68 = .ok (.if_icmp .eq 16, 3) := by decide +kernel
theorem dX4_conkersAheadOf_71 : decode cX4_conkersAheadOf 71 = .ok (.iload 4, 2) := by decide +kernel
theorem dX4_conkersAheadOf_73 : decode cX4_conkersAheadOf 73 = .ok (.ifCond .ne 8, 3) := by decide +kernel
theorem dX4_conkersAheadOf_76 : decode cX4_conkersAheadOf 76 = .ok (.iload 5, 2) := by decide +kernel
theorem dX4_conkersAheadOf_78 : decode cX4_conkersAheadOf 78 = .ok (.ifCond .eq 6, 3) := by decide +kernel
theorem dX4_conkersAheadOf_81 : decode cX4_conkersAheadOf 81 = .ok (.iinc 2 1, 3) := by decide +kernel
theorem dX4_conkersAheadOf_84 : decode cX4_conkersAheadOf 84 = .ok (.iinc 3 1, 3) := by decide +kernel
theorem dX4_conkersAheadOf_87 : decode cX4_conkersAheadOf 87 = .ok (.goto (-83), 3) := by decide +kernel
theorem dX4_conkersAheadOf_90 : decode cX4_conkersAheadOf 90 = .ok (.iload_n 2, 1) := by decide +kernel
theorem dX4_conkersAheadOf_91 : decode cX4_conkersAheadOf 91 = .ok (.ireturn, 1) := by decide +kernel
theorem dX4_conkersSmashedBy_0 : decode cX4_conkersSmashedBy 0 = .ok (.iconst 0, 1) := by decide +kernel
theorem dX4_conkersSmashedBy_1 : decode cX4_conkersSmashedBy 1 = .ok (.istore_n 2, 1) := by decide +kernel
theorem dX4_conkersSmashedBy_2 : decode cX4_conkersSmashedBy 2 = .ok (.iconst 0, 1) := by decide +kernel
theorem dX4_conkersSmashedBy_3 : decode cX4_conkersSmashedBy 3 = .ok (.istore_n 3, 1) := by decide +kernel
theorem dX4_conkersSmashedBy_4 : decode cX4_conkersSmashedBy 4 = .ok (.iload_n 3, 1) := by decide +kernel
theorem dX4_conkersSmashedBy_5 : decode cX4_conkersSmashedBy 5 = .ok (.aload_n 0, 1) := by decide +kernel
theorem dX4_conkersSmashedBy_6 : decode cX4_conkersSmashedBy 6 = .ok (.getfield 42, 3) := by decide +kernel
theorem dX4_conkersSmashedBy_9 : decode cX4_conkersSmashedBy 9 = .ok (.if_icmp .ge 22, 3) := by decide +kernel
theorem dX4_conkersSmashedBy_12 : decode cX4_conkersSmashedBy 12 = .ok (.aload_n 0, 1) := by decide +kernel
theorem dX4_conkersSmashedBy_13 : decode cX4_conkersSmashedBy 13 = .ok (.getfield 39, 3) := by decide +kernel
