theorem dX4_conkersSmashedBy_16 : decode cX4_conkersSmashedBy 16 = .ok (.iload_n 3, 1) := by decide +kernel
theorem dX4_conkersSmashedBy_17 : decode cX4_conkersSmashedBy 17 = .ok (.iaload, 1) := by decide +kernel
theorem dX4_conkersSmashedBy_18 : decode cX4_conkersSmashedBy 18 = .ok (.iload_n 1, 1) := by decide +kernel
theorem dX4_conkersSmashedBy_19 : decode cX4_conkersSmashedBy 19 = .ok (.if_icmp .ne 6, 3) := by decide +kernel
theorem dX4_conkersSmashedBy_22 : decode cX4_conkersSmashedBy 22 = .ok (.iinc 2 1, 3) := by decide +kernel
theorem dX4_conkersSmashedBy_25 : decode cX4_conkersSmashedBy 25 = .ok (.iinc 3 1, 3) := by decide +kernel
theorem dX4_conkersSmashedBy_28 : decode cX4_conkersSmashedBy 28 = .ok (.goto (-24), 3) := by decide +kernel
theorem dX4_conkersSmashedBy_31 : decode cX4_conkersSmashedBy 31 = .ok (.iload_n 2, 1) := by decide +kernel
theorem dX4_conkersSmashedBy_32 : decode cX4_conkersSmashedBy 32 = .ok (.ireturn, 1) := by decide +kernel
set_option maxRecDepth 20000 in
theorem ggX4_conkersWithHeir_X4_conkersSmashedBy : GoodIn wsX4_conkersWithHeir wsX4_conkersSmashedBy := goodIn_r _ [6, 1, 7, 8, 9, 10, 11, 12, 13, 14, 15, 16, 17, 18, 19, 20] (by decide +kernel) (by decide +kernel)
set_option maxRecDepth 20000 in
theorem gX4_conkersWithHeir_X4_conkersSmashedBy : GoodIn wsX4_conkersWithHeir (wsV RX4 127 RX4 yX4_conkersSmashedBy wsX4_conkersSmashedBy) := goodIn_app (goodIn_of _ (by decide +kernel)) ggX4_conkersWithHeir_X4_conkersSmashedBy
theorem dX4_conkersWithHeir_0 : decode cX4_conkersWithHeir 0 = .ok (.aload_n 0, 1) := by decide +kernel
theorem dX4_conkersWithHeir_1 : decode cX4_conkersWithHeir 1 = .ok (.getfield 42, 3) := by decide +kernel
theorem dX4_conkersWithHeir_4 : decode cX4_conkersWithHeir 4 = .ok (.aload_n 0, 1) := by decide +kernel
theorem dX4_conkersWithHeir_5 : decode cX4_conkersWithHeir 5 = .ok (.bipush (-5), 2) := by decide +kernel
theorem dX4_conkersWithHeir_7 : decode cX4_conkersWithHeir 7 = .ok (.invokevirtual 127, 3) := by decide +kernel
theorem dX4_conkersWithHeir_10 : decode cX4_conkersWithHeir 10 = .ok (.isub, 1) := by decide +kernel
theorem dX4_conkersWithHeir_11 : decode cX4_conkersWithHeir 11 = .ok (.ireturn, 1) := by decide +kernel
set_option maxRecDepth 20000 in
theorem ggX4_lengthOfLine_X4_isInLineOf : GoodIn wsX4_lengthOfLine wsX4_isInLineOf := goodIn_r _ [6, 7, 1, 8, 9, 10, 5, 11, 12, 13, 14, 15, 16, 17, 18, 19, 20, 21, 22, 23, 24, 25, 26, 27] (by decide +kernel) (by decide +kernel)
set_option maxRecDepth 20000 in
theorem gX4_lengthOfLine_X4_isInLineOf : GoodIn wsX4_lengthOfLine (wsV RX4 130 RX4 yX4_isInLineOf wsX4_isInLineOf) := goodIn_app (goodIn_of _ (by decide +kernel)) ggX4_lengthOfLine_X4_isInLineOf
theorem dX4_lengthOfLine_0 : decode cX4_lengthOfLine 0 = .ok (.iconst 0, 1) := by decide +kernel
theorem dX4_lengthOfLine_1 : decode cX4_lengthOfLine 1 = .ok (.istore_n 2, 1) := by decide +kernel
theorem dX4_lengthOfLine_2 : decode cX4_lengthOfLine 2 = .ok (.iconst 0, 1) := by decide +kernel
theorem dX4_lengthOfLine_3 : decode cX4_lengthOfLine 3 = .ok (.istore_n 3, 1) := by decide +kernel
theorem dX4_lengthOfLine_4 : decode cX4_lengthOfLine 4 = .ok (.iload_n 3, 1) := by decide +kernel
theorem dX4_lengthOfLine_5 : decode cX4_lengthOfLine 5 = .ok (.aload_n 0, 1) := by decide +kernel
theorem dX4_lengthOfLine_6 : decode cX4_lengthOfLine 6 = .ok (.getfield 42, 3) := by decide +kernel
theorem dX4_lengthOfLine_9 : decode cX4_lengthOfLine 9 = .ok (.if_icmp .ge 21, 3) := by decide +kernel
theorem dX4_lengthOfLine_12 : decode cX4_lengthOfLine 12 = .ok (.aload_n 0, 1) := by decide +kernel
theorem dX4_lengthOfLine_13 : decode cX4_lengthOfLine 13 = .ok (.iload_n 3, 1) := by decide +kernel
theorem dX4_lengthOfLine_14 : decode cX4_lengthOfLine 14 = .ok (.iload_n 1, 1) := by decide +kernel
theorem dX4_lengthOfLine_15 : decode cX4_lengthOfLine 15 = .ok (.invokevirtual 130, 3) := by decide +kernel
theorem dX4_lengthOfLine_18 : decode cX4_lengthOfLine 18 = .ok (.ifCond .eq 6, 3) := by decide +kernel
theorem dX4_lengthOfLine_21 : decode cX4_lengthOfLine 21 = .ok (.iinc 2 1, 3) := by decide +kernel
theorem dX4_lengthOfLine_24 : decode cX4_lengthOfLine 24 = .ok (.iinc 3 1, 3) := by decide +kernel
theorem dX4_lengthOfLine_27 : decode cX4_lengthOfLine 27 = .ok (.goto (-23), 3) := by decide +kernel
theorem dX4_lengthOfLine_30 : decode cX4_lengthOfLine 30 = .ok (.iload_n 2, 1) := by decide +kernel
theorem dX4_lengthOfLine_31 : decode cX4_lengthOfLine 31 = .ok (.ireturn, 1) := by decide +kernel
set_option maxRecDepth 20000 in
theorem ggX4_isInLineOf_X4_hasConker : GoodIn wsX4_isInLineOf wsX4_hasConker := goodIn_r _ [7, 2, 8, 9, 10, 11, 12, 13, 14, 15, 16, 17, 18, 19, 20, 21, 22, 23] (by decide +kernel) (by decide +kernel)
set_option maxRecDepth 20000 in
theorem gX4_isInLineOf_X4_hasConker : GoodIn wsX4_isInLineOf (wsV RX4 67 RX4 yX4_hasConker wsX4_hasConker) := goodIn_app (goodIn_of _ (by decide +kernel)) ggX4_isInLineOf_X4_hasConker
theorem dX4_isInLineOf_0 : decode cX4_isInLineOf 0 = .ok (.aload_n 0, 1) := by decide +kernel
theorem dX4_isInLineOf_1 : decode cX4_isInLineOf 1 = .ok (.getfield 39, 3) := by decide +kernel
theorem dX4_isInLineOf_4 : decode cX4_isInLineOf 4 = .ok (.iload_n 1, 1) := by decide +kernel
theorem dX4_isInLineOf_5 : decode cX4_isInLineOf 5 = .ok (.iaload, 1) := by decide +kernel
theorem dX4_isInLineOf_6 : decode cX4_isInLineOf 6 = .ok (.istore_n 3, 1) := by decide +kernel
theorem dX4_isInLineOf_7 : decode cX4_isInLineOf 7 = .ok (.iconst 0, 1) := by decide +kernel
theorem dX4_isInLineOf_8 : decode cX4_isInLineOf 8 = .ok (.istore 4, 2) := by decide +kernel
theorem dX4_isInLineOf_10 : decode cX4_isInLineOf 10 = .ok (.iload 4, 2) := by decide +kernel
theorem dX4_isInLineOf_12 : decode cX4_isInLineOf 12 = .ok (.aload_n 0, 1) := by decide +kernel
theorem dX4_isInLineOf_13 : decode cX4_isInLineOf 13 = .ok (.getfield 42, 3) := by decide +kernel
theorem dX4_isInLineOf_16 : decode cX4_isInLineOf 16 = .ok (.if_icmp .ge 31, 3) := by decide +kernel
theorem dX4_isInLineOf_19 : decode cX4_isInLineOf 19 = .ok (.aload_n 0, 1) := by decide +kernel
theorem dX4_isInLineOf_20 : decode cX4_isInLineOf 20 = .ok (.iload_n 3, 1) := by decide +kernel
theorem dX4_isInLineOf_21 : decode cX4_isInLineOf 21 = .ok (.invokevirtual 67, 3) := by decide +kernel
theorem dX4_isInLineOf_24 : decode cX4_isInLineOf 24 = .ok (.ifCond .eq 23, 3) := by decide +kernel
theorem dX4_isInLineOf_27 : decode cX4_isInLineOf 27 = .ok (.iload_n 3, 1) := by decide +kernel
theorem dX4_isInLineOf_28 : decode cX4_isInLineOf 28 = .ok (.iload_n 2, 1) := by decide +kernel
theorem dX4_isInLineOf_29 : decode cX4_isInLineOf 29 = .ok (.if_icmp .ne 5, 3) := by decide +kernel
theorem dX4_isInLineOf_32 : decode cX4_isInLineOf 32 = .ok (.iconst 1, 1) := by decide +kernel
theorem dX4_isInLineOf_33 : decode cX4_isInLineOf 33 = .ok (.ireturn, 1) := by decide +kernel
theorem dX4_isInLineOf_34 : decode cX4_isInLineOf 34 = .ok (.aload_n 0, 1) := by decide +kernel
theorem dX4_isInLineOf_35 : decode cX4_isInLineOf 35 = .ok (.getfield 39, 3) := by decide +kernel
theorem dX4_isInLineOf_38 : decode cX4_isInLineOf 38 = .ok (.iload_n 3, 1) := by decide +kernel
theorem dX4_isInLineOf_39 : decode cX4_isInLineOf 39 = .ok (.iaload, 1) := by decide +kernel
theorem dX4_isInLineOf_40 : decode cX4_isInLineOf 40 = .ok (.istore_n 3, 1) := by decide +kernel
theorem dX4_isInLineOf_41 : decode cX4_isInLineOf 41 = .ok (.iinc 4 1, 3) := by decide +kernel
theorem dX4_isInLineOf_44 : decode cX4_isInLineOf 44 = .ok (.goto (-34), 3) := by decide +kernel
theorem dX4_isInLineOf_47 : decode cX4_isInLineOf 47 = .ok (.iconst 0, 1) := by decide +kernel
theorem dX4_isInLineOf_48 : decode cX4_isInLineOf 48 = .ok (.ireturn, 1) := by decide +kernel
theorem dX4_boastsTold_0 : decode cX4_boastsTold 0 = .ok (.iconst 0, 1) := by decide +kernel
theorem dX4_boastsTold_1 : decode cX4_boastsTold 1 = .ok (.istore_n 1, 1) := by decide +kernel
theorem dX4_boastsTold_2 : decode cX4_boastsTold 2 = .ok (.iconst 0, 1) := by decide +kernel
theorem dX4_boastsTold_3 : decode cX4_boastsTold 3 = .ok (.istore_n 2, 1) := by decide +kernel
theorem dX4_boastsTold_4 : decode cX4_boastsTold 4 = .ok (.iload_n 2, 1) := by decide +kernel
theorem dX4_boastsTold_5 : decode cX4_boastsTold 5 = .ok (.aload_n 0, 1) := by decide +kernel
theorem dX4_boastsTold_6 : decode cX4_boastsTold 6 = .ok (.getfield 42, 3) := by decide +kernel
theorem dX4_boastsTold_9 : decode cX4_boastsTold 9 = .ok (.if_icmp .ge 23, 3) := by decide +kernel
theorem dX4_boastsTold_12 : decode cX4_boastsTold 12 = .ok (.aload_n 0, 1) := by decide +kernel
theorem dX4_boastsTold_13 : decode cX4_boastsTold 13 = .ok (.getfield 33, 3) := by decide +kernel
theorem dX4_boastsTold_16 : decode cX4_boastsTold 16 = .ok (.iload_n 2, 1) := by decide +kernel
theorem dX4_boastsTold_17 : decode cX4_boastsTold 17 = .ok (.iaload, 1) := by decide +kernel
theorem dX4_boastsTold_18 : decode cX4_boastsTold 18 = .ok (.bipush (-5), 2) := by decide +kernel
theorem dX4_boastsTold_20 : decode cX4_boastsTold 20 = .ok (.if_icmp .eq 6, 3) := by decide +kernel
theorem dX4_boastsTold_23 : decode cX4_boastsTold 23 = .ok (.iinc 1 1, 3) := by decide +kernel
theorem dX4_boastsTold_26 : decode cX4_boastsTold 26 = .ok (.iinc 2 1, 3) := by decide +kernel
theorem dX4_boastsTold_29 : decode cX4_boastsTold 29 = .ok (.goto (-25), 3) := by decide +kernel
theorem dX4_boastsTold_32 : decode cX4_boastsTold 32 = .ok (.iload_n 1, 1) := by decide +kernel
theorem dX4_boastsTold_33 : decode cX4_boastsTold 33 = .ok (.ireturn, 1) := by decide +kernel
theorem dX4_boastsTooHigh_0 : decode cX4_boastsTooHigh 0 = .ok (.iconst 0, 1) := by decide +kernel
theorem dX4_boastsTooHigh_1 : decode cX4_boastsTooHigh 1 = .ok (.istore_n 1, 1) := by decide +kernel
theorem dX4_boastsTooHigh_2 : decode cX4_boastsTooHigh 2 = .ok (.iconst 0, 1) := by decide +kernel
theorem dX4_boastsTooHigh_3 : decode cX4_boastsTooHigh 3 = .ok (.istore_n 2, 1) := by decide +kernel
theorem dX4_boastsTooHigh_4 : decode cX4_boastsTooHigh 4 = .ok (.iload_n 2, 1) := by decide +kernel
theorem dX4_boastsTooHigh_5 : decode cX4_boastsTooHigh 5 = .ok (.aload_n 0, 1) := by decide +kernel
theorem dX4_boastsTooHigh_6 : decode cX4_boastsTooHigh 6 = .ok (.getfield 42, 3) := by decide +kernel
theorem dX4_boastsTooHigh_9 : decode cX4_boastsTooHigh 9 = .ok (.if_icmp .ge 27, 3) := by decide +kernel
theorem dX4_boastsTooHigh_12 : decode cX4_boastsTooHigh 12 = .ok (.aload_n 0, 1) := by decide +kernel
theorem dX4_boastsTooHigh_13 : decode cX4_boastsTooHigh 13 = .ok (.getfield 33, 3) := by decide +kernel
theorem dX4_boastsTooHigh_16 : decode cX4_boastsTooHigh 16 = .ok (.iload_n 2, 1) := by decide +kernel
theorem dX4_boastsTooHigh_17 : decode cX4_boastsTooHigh 17 = .ok (.iaload, 1) := by decide +kernel
theorem dX4_boastsTooHigh_18 : decode cX4_boastsTooHigh 18 = .ok (.aload_n 0, 1) := by decide +kernel
theorem dX4_boastsTooHigh_19 : decode cX4_boastsTooHigh 19 = .ok (.getfield 30, 3) := by decide +kernel
theorem dX4_boastsTooHigh_22 : decode cX4_boastsTooHigh 22 = .ok (.iload_n 2, 1) := by decide +kernel
theorem dX4_boastsTooHigh_23 : decode cX4_boastsTooHigh 23 = .ok (.iaload, 1) := by decide +kernel
theorem dX4_boastsTooHigh_24 : decode cX4_boastsTooHigh 24 = .ok (.if_icmp .le 6, 3) := by decide +kernel
theorem dX4_boastsTooHigh_27 : decode cX4_boastsTooHigh 27 = .ok (.iinc 1 1, 3) := by decide +kernel
theorem dX4_boastsTooHigh_30 : decode cX4_boastsTooHigh 30 = .ok (.iinc 2 1, 3) := by decide +kernel
theorem dX4_boastsTooHigh_33 : decode cX4_boastsTooHigh 33 = .ok (.goto (-29), 3) := by decide +kernel
theorem dX4_boastsTooHigh_36 : decode cX4_boastsTooHigh 36 = .ok (.iload_n 1, 1) := by decide +kernel
theorem dX4_boastsTooHigh_37 : decode cX4_boastsTooHigh 37 = .ok (.ireturn, 1) := by decide +kernel
set_option maxRecDepth 20000 in
theorem ggX5_init_X4_init : GoodIn wsX5_init wsX4_init := goodIn_r _ [29, 30, 2, 3, 31, 32, 33, 34, 35, 36, 37, 38, 39, 40, 41, 42, 43, 44, 73, 74, 75, 76, 77, 78, 79, 80, 81, 82, 83, 84, 85] (by decide +kernel) (by decide +kernel)
set_option maxRecDepth 20000 in
theorem gX5_init_X4_init : GoodIn wsX5_init (wsX4_init) := ggX5_init_X4_init
set_option maxRecDepth 20000 in
theorem ggX5_init_X1_init : GoodIn wsX5_init wsX1_init := goodIn_r _ [47, 48, 2, 3, 49, 50, 51, 5, 6, 52, 28, 29, 30, 31, 32, 33, 34, 35, 36, 37, 38, 39, 40, 41, 42, 43, 44, 94, 95, 73, 74, 75, 76, 77, 78, 79, 80, 81, 82, 83, 84, 85] (by decide +kernel) (by decide +kernel)
set_option maxRecDepth 20000 in
theorem gX5_init_X1_init : GoodIn wsX5_init (wsX1_init) := ggX5_init_X1_init
set_option maxRecDepth 20000 in
theorem ggX5_init_X3_init : GoodIn wsX5_init wsX3_init := goodIn_r _ [54, 55, 2, 3, 56, 57, 58, 59, 60, 61, 62, 63, 96, 97, 98, 99, 100, 101, 102] (by decide +kernel) (by decide +kernel)
set_option maxRecDepth 20000 in
theorem gX5_init_X3_init_n31 : GoodIn wsX5_init (wsX3_init) := ggX5_init_X3_init
set_option maxRecDepth 20000 in
theorem ggX5_init_X0_init : GoodIn wsX5_init wsX0_init := goodIn_r _ [65, 66, 2, 3, 67, 103] (by decide +kernel) (by decide +kernel)
set_option maxRecDepth 20000 in
theorem gX5_init_X0_init_n38 : GoodIn wsX5_init (wsX0_init) := ggX5_init_X0_init
set_option maxRecDepth 20000 in
theorem ggX5_init_X2_init : GoodIn wsX5_init wsX2_init := goodIn_r _ [69, 70, 2, 3, 31, 71, 72, 104, 105] (by decide +kernel) (by decide +kernel)
set_option maxRecDepth 20000 in
theorem gX5_init_X2_init_n45 : GoodIn wsX5_init (wsX2_init) := ggX5_init_X2_init
theorem dX5_init_0 : decode cX5_init 0 = .ok (.aload_n 0, 1) := by decide +kernel
theorem dX5_init_1 : decode cX5_init 1 = .ok (.invokespecial 1, 3) := by decide +kernel
theorem dX5_init_4 : decode cX5_init 4 = .ok (.aload_n 0, 1) := by decide +kernel
theorem dX5_init_5 : decode cX5_init 5 = .ok (.new 7, 3) := by decide +kernel
theorem dX5_init_8 : decode cX5_init 8 = .ok (.dup, 1) := by decide +kernel
theorem dX5_init_9 : decode cX5_init 9 = .ok (.invokespecial 9, 3) := by decide +kernel
theorem dX5_init_12 : decode cX5_init 12 = .ok (.putfield 10, 3) := by decide +kernel
theorem dX5_init_15 : decode cX5_init 15 = .ok (.aload_n 0, 1) := by decide +kernel
theorem dX5_init_16 : decode cX5_init 16 = .ok (.new 7, 3) := by decide +kernel
theorem dX5_init_19 : decode cX5_init 19 = .ok (.dup, 1) := by decide +kernel
theorem dX5_init_20 : decode cX5_init 20 = .ok (.invokespecial 9, 3) := by decide +kernel
theorem dX5_init_23 : decode cX5_init 23 = .ok (.putfield 16, 3) := by decide +kernel
theorem dX5_init_26 : decode cX5_init 26 = .ok (.aload_n 0, 1) := by decide +kernel
theorem dX5_init_27 : decode cX5_init 27 = .ok (.new 7, 3) := by decide +kernel
theorem dX5_init_30 : decode cX5_init 30 = .ok (.dup, 1) := by decide +kernel
theorem dX5_init_31 : decode cX5_init 31 = .ok (.invokespecial 9, 3) := by decide +kernel
theorem dX5_init_34 : decode cX5_init 34 = .ok (.putfield 19, 3) := by decide +kernel
theorem dX5_init_37 : decode cX5_init 37 = .ok (.aload_n 0, 1) := by decide +kernel
theorem dX5_init_38 : decode cX5_init 38 = .ok (.new 22, 3) := by decide +kernel
theorem dX5_init_41 : decode cX5_init 41 = .ok (.dup, 1) := by decide +kernel
theorem dX5_init_42 : decode cX5_init 42 = .ok (.invokespecial 24, 3) := by decide +kernel
theorem dX5_init_45 : decode cX5_init 45 = .ok (.putfield 25, 3) := by decide +kernel
theorem dX5_init_48 : decode cX5_init 48 = .ok (.aload_n 0, 1) := by decide +kernel
theorem dX5_init_49 : decode cX5_init 49 = .ok (.new 29, 3) := by decide +kernel
theorem dX5_init_52 : decode cX5_init 52 = .ok (.dup, 1) := by decide +kernel
theorem dX5_init_53 : decode cX5_init 53 = .ok (.invokespecial 31, 3) := by decide +kernel
theorem dX5_init_56 : decode cX5_init 56 = .ok (.putfield 32, 3) := by decide +kernel
theorem dX5_init_59 : decode cX5_init 59 = .ok (.aload_n 0, 1) := by decide +kernel
theorem dX5_init_60 : decode cX5_init 60 = .ok (.new 36, 3) := by decide +kernel
theorem dX5_init_63 : decode cX5_init 63 = .ok (.dup, 1) := by decide +kernel
theorem dX5_init_64 : decode cX5_init 64 = .ok (.invokespecial 38, 3) := by decide +kernel
theorem dX5_init_67 : decode cX5_init 67 = .ok (.putfield 39, 3) := by decide +kernel
theorem dX5_init_70 : decode cX5_init 70 = .ok (.aload_n 0, 1) := by decide +kernel
theorem dX5_init_71 : decode cX5_init 71 = .ok (.new 43, 3) := by decide +kernel
theorem dX5_init_74 : decode cX5_init 74 = .ok (.dup, 1) := by decide +kernel
theorem dX5_init_75 : decode cX5_init 75 = .ok (.invokespecial 45, 3) := by decide +kernel
theorem dX5_init_78 : decode cX5_init 78 = .ok (.putfield 46, 3) := by decide +kernel
theorem dX5_init_81 : decode cX5_init 81 = .ok (.aload_n 0, 1) := by decide +kernel
theorem dX5_init_82 : decode cX5_init 82 = .ok (.iconst 0, 1) := by decide +kernel
theorem dX5_init_83 : decode cX5_init 83 = .ok (.putfield 50, 3) := by decide +kernel
theorem dX5_init_86 : decode cX5_init 86 = .ok (.return_, 1) := by decide +kernel
set_option maxRecDepth 20000 in
theorem ggX5_thread_X5_isPlayer : GoodIn wsX5_thread wsX5_isPlayer := goodIn_r _ [8, 9, 10, 7, 11] (by decide +kernel) (by decide +kernel)
set_option maxRecDepth 20000 in
theorem gX5_thread_X5_isPlayer : GoodIn wsX5_thread (va_wsS RX5 54 yX5_isPlayer wsX5_isPlayer) := goodIn_app (goodIn_of _ (by decide +kernel)) ggX5_thread_X5_isPlayer
set_option maxRecDepth 20000 in
theorem ggX5_thread_X5_isWithin : GoodIn wsX5_thread wsX5_isWithin := goodIn_r _ [11] (by decide +kernel) (by decide +kernel)
set_option maxRecDepth 20000 in
theorem gX5_thread_X5_isWithin : GoodIn wsX5_thread (va_wsS RX5 58 yX5_isWithin wsX5_isWithin) := goodIn_app (goodIn_of _ (by decide +kernel)) ggX5_thread_X5_isWithin
set_option maxRecDepth 20000 in
theorem ggX5_thread_X1_keep : GoodIn wsX5_thread wsX1_keep := goodIn_r _ [16, 17, 18, 19, 20, 21, 15, 22, 23, 24, 25, 26, 27, 28, 29, 30, 31, 32, 33, 34, 35, 36, 37, 38, 39, 40, 41, 42, 43, 44, 70, 71, 57, 58, 59, 60, 61, 62, 63, 64, 65, 66, 67, 68, 69] (by decide +kernel) (by decide +kernel)
set_option maxRecDepth 20000 in
theorem gX5_thread_X1_keep : GoodIn wsX5_thread (wsV RX5 70 RX1 yX1_keep wsX1_keep) := goodIn_app (goodIn_of _ (by decide +kernel)) ggX5_thread_X1_keep
set_option maxRecDepth 20000 in
theorem ggX5_thread_X4_addConker : GoodIn wsX5_thread wsX4_addConker := goodIn_r _ [48, 42, 28, 34, 35, 36, 37, 38, 39, 40, 41, 57, 58, 59, 60, 61, 62, 63, 64, 65, 66, 67, 68, 69] (by decide +kernel) (by decide +kernel)
set_option maxRecDepth 20000 in
theorem gX5_thread_X4_addConker : GoodIn wsX5_thread (wsV RX5 74 RX4 yX4_addConker wsX4_addConker) := goodIn_app (goodIn_of _ (by decide +kernel)) ggX5_thread_X4_addConker
theorem dX5_thread_0 : decode cX5_thread 0 = .ok (.iload_n 1, 1) := by decide +kernel
theorem dX5_thread_1 : decode cX5_thread 1 = .ok (.invokestatic 54, 3) := by decide +kernel
theorem dX5_thread_4 : decode cX5_thread 4 = .ok (.ifCond .ne 5, 3) := by decide +kernel
theorem dX5_thread_7 : decode cX5_thread 7 = .ok (.iconst (-1), 1) := by decide +kernel
theorem dX5_thread_8 : decode cX5_thread 8 = .ok (.ireturn, 1) := by decide +kernel
theorem dX5_thread_9 : decode cX5_thread 9 = .ok (.iload_n 2, 1) := by decide +kernel
theorem dX5_thread_10 : decode cX5_thread 10 = .ok (.iconst 1, 1) := by decide +kernel
theorem dX5_thread_11 : decode cX5_thread 11 = .ok (.bipush 9, 2) := by decide +kernel
theorem dX5_thread_13 : decode cX5_thread 13 = .ok (.invokestatic 58, 3) := by decide +kernel
theorem dX5_thread_16 : decode cX5_thread 16 = .ok (.ifCond .ne 6, 3) := by decide +kernel
theorem dX5_thread_19 : decode cX5_thread 19 = .ok (.bipush (-2), 2) := by decide +kernel
theorem dX5_thread_21 : decode cX5_thread 21 = .ok (.ireturn, 1) := by decide +kernel
theorem dX5_thread_22 : decode cX5_thread 22 = .ok (.aload_n 0, 1) := by decide +kernel
theorem dX5_thread_23 : decode cX5_thread 23 = .ok (.getfield 10, 3) := by decide +kernel
theorem dX5_thread_26 : decode cX5_thread 26 = .ok (.getfield 62, 3) := by decide +kernel
theorem dX5_thread_29 : decode cX5_thread 29 = .ok (.iload_n 1, 1) := by decide +kernel
theorem dX5_thread_30 : decode cX5_thread 30 = .ok (.iaload, 1) := by decide +kernel
theorem dX5_thread_31 : decode cX5_thread 31 = .ok (.iconst 1, 1) := by decide +kernel
theorem dX5_thread_32 : decode cX5_thread 32 = .ok (.if_icmp .ge 6, 3) := by decide +kernel
theorem dX5_thread_35 : decode cX5_thread 35 = .ok (.bipush (-4), 2) := by decide +kernel
theorem dX5_thread_37 : decode cX5_thread 37 = .ok (.ireturn, 1) := by decide +kernel
theorem dX5_thread_38 : decode cX5_thread 38 = .ok (.aload_n 0, 1) := by decide +kernel
theorem dX5_thread_39 : decode cX5_thread 39 = .ok (.getfield 10, 3) := by decide +kernel
theorem dX5_thread_42 : decode cX5_thread 42 = .ok (.getfield 66, 3) := by decide +kernel
theorem dX5_thread_45 : decode cX5_thread 45 = .ok (.bipush 30, 2) := by decide +kernel
theorem dX5_thread_47 : decode cX5_thread 47 = .ok (.if_icmp .lt 6, 3) := by decide +kernel
theorem dX5_thread_50 : decode cX5_thread 50 = .ok (.bipush (-3), 2) := by decide +kernel
theorem dX5_thread_52 : decode cX5_thread 52 = .ok (.ireturn, 1) := by decide +kernel
theorem dX5_thread_53 : decode cX5_thread 53 = .ok (.aload_n 0, 1) := by decide +kernel
theorem dX5_thread_54 : decode cX5_thread 54 = .ok (.getfield 25, 3) := by decide +kernel
theorem dX5_thread_57 : decode cX5_thread 57 = .ok (.aload_n 0, 1) := by decide +kernel
theorem dX5_thread_58 : decode cX5_thread 58 = .ok (.getfield 10, 3) := by decide +kernel
theorem dX5_thread_61 : decode cX5_thread 61 = .ok (.invokevirtual 70, 3) := by decide +kernel
theorem dX5_thread_64 : decode cX5_thread 64 = .ok (.aload_n 0, 1) := by decide +kernel
theorem dX5_thread_65 : decode cX5_thread 65 = .ok (.getfield 10, 3) := by decide +kernel
theorem dX5_thread_68 : decode cX5_thread 68 = .ok (.iload_n 1, 1) := by decide +kernel
theorem dX5_thread_69 : decode cX5_thread 69 = .ok (.iload_n 2, 1) := by decide +kernel
theorem dX5_thread_70 : decode cX5_thread 70 = .ok (.invokevirtual 74, 3) := by decide +kernel
theorem dX5_thread_73 : decode cX5_thread 73 = .ok (.ireturn, 1) := by decide +kernel
set_option maxRecDepth 20000 in
theorem ggX5_give_X5_isPlayer : GoodIn wsX5_give wsX5_isPlayer := goodIn_r _ [7, 8, 9, 6, 10] (by decide +kernel) (by decide +kernel)
set_option maxRecDepth 20000 in
theorem gX5_give_X5_isPlayer : GoodIn wsX5_give (va_wsS RX5 54 yX5_isPlayer wsX5_isPlayer) := goodIn_app (goodIn_of _ (by decide +kernel)) ggX5_give_X5_isPlayer
set_option maxRecDepth 20000 in
theorem ggX5_give_X5_isWithin : GoodIn wsX5_give wsX5_isWithin := goodIn_r _ [10] (by decide +kernel) (by decide +kernel)
set_option maxRecDepth 20000 in
theorem gX5_give_X5_isWithin : GoodIn wsX5_give (va_wsS RX5 58 yX5_isWithin wsX5_isWithin) := goodIn_app (goodIn_of _ (by decide +kernel)) ggX5_give_X5_isWithin
set_option maxRecDepth 20000 in
theorem ggX5_give_X1_keep : GoodIn wsX5_give wsX1_keep := goodIn_r _ [15, 16, 17, 18, 19, 20, 14, 21, 22, 23, 24, 25, 26, 27, 28, 29, 30, 31, 32, 33, 34, 35, 36, 37, 38, 39, 40, 41, 42, 43, 65, 66, 52, 53, 54, 55, 56, 57, 58, 59, 60, 61, 62, 63, 64] (by decide +kernel) (by decide +kernel)
set_option maxRecDepth 20000 in
theorem gX5_give_X1_keep : GoodIn wsX5_give (wsV RX5 70 RX1 yX1_keep wsX1_keep) := goodIn_app (goodIn_of _ (by decide +kernel)) ggX5_give_X1_keep
theorem dX5_give_0 : decode cX5_give 0 = .ok (.iload_n 1, 1) := by decide +kernel
theorem dX5_give_1 : decode cX5_give 1 = .ok (.invokestatic 54, 3) := by decide +kernel
theorem dX5_give_4 : decode cX5_give 4 = .ok (.ifCond .ne 5, 3) := by decide +kernel
theorem dX5_give_7 : decode cX5_give 7 = .ok (.iconst (-1), 1) := by decide +kernel
theorem dX5_give_8 : decode cX5_give 8 = .ok (.ireturn, 1) := by decide +kernel
theorem dX5_give_9 : decode cX5_give 9 = .ok (.iload_n 2, 1) := by decide +kernel
theorem dX5_give_10 : decode cX5_give 10 = .ok (.iconst 1, 1) := by decide +kernel
theorem dX5_give_11 : decode cX5_give 11 = .ok (.bipush 9, 2) := by decide +kernel
theorem dX5_give_13 : decode cX5_give 13 = .ok (.invokestatic 58, 3) := by decide +kernel
theorem dX5_give_16 : decode cX5_give 16 = .ok (.ifCond .ne 6, 3) := by decide +kernel
theorem dX5_give_19 : decode cX5_give 19 = .ok (.bipush (-2), 2) := by decide +kernel
theorem dX5_give_21 : decode cX5_give 21 = .ok (.ireturn, 1) := by decide +kernel
theorem dX5_give_22 : decode cX5_give 22 = .ok (.aload_n 0, 1) := by decide +kernel
theorem dX5_give_23 : decode cX5_give 23 = .ok (.getfield 10, 3) := by decide +kernel
theorem dX5_give_26 : decode cX5_give 26 = .ok (.getfield 62, 3) := by decide +kernel
theorem dX5_give_29 : decode cX5_give 29 = .ok (.iload_n 1, 1) := by decide +kernel
theorem dX5_give_30 : decode cX5_give 30 = .ok (.iaload, 1) := by decide +kernel
theorem dX5_give_31 : decode cX5_give 31 = .ok (.iload_n 2, 1) := by decide +kernel
theorem dX5_give_32 : decode cX5_give 32 = .ok (.iadd, 1) := by decide +kernel
theorem dX5_give_33 : decode cX5_give 33 = .ok (.bipush 20, 2) := by decide +kernel
theorem dX5_give_35 : decode cX5_give 35 = .ok (.if_icmp .le 6, 3) := by decide +kernel
theorem dX5_give_38 : decode cX5_give 38 = .ok (.bipush (-3), 2) := by decide +kernel
theorem dX5_give_40 : decode cX5_give 40 = .ok (.ireturn, 1) := by decide +kernel
theorem dX5_give_41 : decode cX5_give 41 = .ok (.aload_n 0, 1) := by decide +kernel
theorem dX5_give_42 : decode cX5_give 42 = .ok (.getfield 25, 3) := by decide +kernel
theorem dX5_give_45 : decode cX5_give 45 = .ok (.aload_n 0, 1) := by decide +kernel
theorem dX5_give_46 : decode cX5_give 46 = .ok (.getfield 10, 3) := by decide +kernel
theorem dX5_give_49 : decode cX5_give 49 = .ok (.invokevirtual 70, 3) := by decide +kernel
theorem dX5_give_52 : decode cX5_give 52 = .ok (.aload_n 0, 1) := by decide +kernel
theorem dX5_give_53 : decode cX5_give 53 = .ok (.getfield 10, 3) := by decide +kernel
theorem dX5_give_56 : decode cX5_give 56 = .ok (.getfield 62, 3) := by decide +kernel
theorem dX5_give_59 : decode cX5_give 59 = .ok (.iload_n 1, 1) := by decide +kernel
theorem dX5_give_60 : decode cX5_give 60 = .ok (.dup2, 1) := by decide +kernel
theorem dX5_give_61 : decode cX5_give 61 = .ok (.iaload, 1) := by decide +kernel
theorem dX5_give_62 : decode cX5_give 62 = .ok (.iload_n 2, 1) := by decide +kernel
theorem dX5_give_63 : decode cX5_give 63 = .ok (.iadd, 1) := by decide +kernel
theorem dX5_give_64 : decode cX5_give 64 = .ok (.iastore, 1) := by decide +kernel
theorem dX5_give_65 : decode cX5_give 65 = .ok (.aload_n 0, 1) := by decide +kernel
theorem dX5_give_66 : decode cX5_give 66 = .ok (.getfield 10, 3) := by decide +kernel
theorem dX5_give_69 : decode cX5_give 69 = .ok (.getfield 62, 3) := by decide +kernel
theorem dX5_give_72 : decode cX5_give 72 = .ok (.iload_n 1, 1) := by decide +kernel
theorem dX5_give_73 : decode cX5_give 73 = .ok (.iaload, 1) := by decide +kernel
theorem dX5_give_74 : decode cX5_give 74 = .ok (.ireturn, 1) := by decide +kernel
set_option maxRecDepth 20000 in
theorem ggX5_strike_X4_strikeError : GoodIn wsX5_strike wsX4_strikeError := goodIn_r _ [7, 8, 9, 10, 11, 12, 13, 6, 14, 15, 16, 17, 18, 19, 20, 21, 22, 23, 24, 25, 98, 99, 100, 101, 102, 103, 104, 105, 106, 107, 108, 109, 110] (by decide +kernel) (by decide +kernel)
set_option maxRecDepth 20000 in
theorem gX5_strike_X4_strikeError : GoodIn wsX5_strike (wsV RX5 78 RX4 yX4_strikeError wsX4_strikeError) := goodIn_app (goodIn_of _ (by decide +kernel)) ggX5_strike_X4_strikeError
set_option maxRecDepth 20000 in
theorem ggX5_strike_X1_keep : GoodIn wsX5_strike wsX1_keep := goodIn_r _ [30, 31, 32, 33, 34, 35, 29, 36, 37, 38, 39, 6, 40, 41, 42, 43, 44, 45, 46, 15, 47, 48, 49, 50, 51, 25, 52, 20, 53, 54, 111, 112, 98, 99, 100, 101, 102, 103, 104, 105, 106, 107, 108, 109, 110] (by decide +kernel) (by decide +kernel)
set_option maxRecDepth 20000 in
theorem gX5_strike_X1_keep : GoodIn wsX5_strike (wsV RX5 70 RX1 yX1_keep wsX1_keep) := goodIn_app (goodIn_of _ (by decide +kernel)) ggX5_strike_X1_keep
set_option maxRecDepth 20000 in
theorem ggX5_strike_X4_hit : GoodIn wsX5_strike wsX4_hit := goodIn_r _ [58, 47, 54, 48, 59, 60, 61, 62, 49, 63, 64, 6, 65, 66, 67, 68, 69, 70, 71, 72, 73, 53, 74, 75, 76, 77, 50, 51, 25, 78, 79, 80, 81, 52, 82, 83, 84, 85, 86, 87, 88, 89, 98, 99, 100, 101, 102, 103, 104, 105, 106, 107, 108, 109, 110] (by decide +kernel) (by decide +kernel)
set_option maxRecDepth 20000 in
theorem gX5_strike_X4_hit : GoodIn wsX5_strike (wsV RX5 82 RX4 yX4_hit wsX4_hit) := goodIn_app (goodIn_of _ (by decide +kernel)) ggX5_strike_X4_hit
theorem dX5_strike_0 : decode cX5_strike 0 = .ok (.aload_n 0, 1) := by decide +kernel
theorem dX5_strike_1 : decode cX5_strike 1 = .ok (.getfield 10, 3) := by decide +kernel
theorem dX5_strike_4 : decode cX5_strike 4 = .ok (.iload_n 1, 1) := by decide +kernel
theorem dX5_strike_5 : decode cX5_strike 5 = .ok (.iload_n 2, 1) := by decide +kernel
theorem dX5_strike_6 : decode cX5_strike 6 = .ok (.iload_n 3, 1) := by decide +kernel
theorem dX5_strike_7 : decode cX5_strike 7 = .ok (.invokevirtual 78, 3) := by decide +kernel
theorem dX5_strike_10 : decode cX5_strike 10 = .ok (.istore 4, 2) := by decide +kernel
theorem dX5_strike_12 : decode cX5_strike 12 = .ok (.iload 4, 2) := by decide +kernel
theorem dX5_strike_14 : decode cX5_strike 14 = .ok (.ifCond .eq 6, 3) := by decide +kernel
theorem dX5_strike_17 : decode cX5_strike 17 = .ok (.iload 4, 2) := by decide +kernel
theorem dX5_strike_19 : decode cX5_strike 19 = .ok (.ireturn, 1) := by decide +kernel
theorem dX5_strike_20 : decode cX5_strike 20 = .ok (.aload_n 0, 1) := by decide +kernel
theorem dX5_strike_21 : decode cX5_strike 21 = .ok (.getfield 25, 3) := by decide +kernel
theorem dX5_strike_24 : decode cX5_strike 24 = .ok (.aload_n 0, 1) := by decide +kernel
theorem dX5_strike_25 : decode cX5_strike 25 = .ok (.getfield 10, 3) := by decide +kernel
theorem dX5_strike_28 : decode cX5_strike 28 = .ok (.invokevirtual 70, 3) := by decide +kernel
theorem dX5_strike_31 : decode cX5_strike 31 = .ok (.aload_n 0, 1) := by decide +kernel
theorem dX5_strike_32 : decode cX5_strike 32 = .ok (.getfield 10, 3) := by decide +kernel
theorem dX5_strike_35 : decode cX5_strike 35 = .ok (.iload_n 1, 1) := by decide +kernel
theorem dX5_strike_36 : decode cX5_strike 36 = .ok (.iload_n 2, 1) := by decide +kernel
theorem dX5_strike_37 : decode cX5_strike 37 = .ok (.iload_n 3, 1) := by decide +kernel
theorem dX5_strike_38 : decode cX5_strike 38 = .ok (.invokevirtual 82, 3) := by decide +kernel
theorem dX5_strike_41 : decode cX5_strike 41 = .ok (.ireturn, 1) := by decide +kernel
set_option maxRecDepth 20000 in
theorem ggX5_mend_X4_mendError : GoodIn wsX5_mend wsX4_mendError := goodIn_r _ [7, 8, 9, 10, 11, 12, 6, 13, 14, 15, 16, 17, 18, 19, 20, 21, 22, 63, 64, 65, 66, 67, 68, 69, 70, 71, 72, 73, 74, 75] (by decide +kernel) (by decide +kernel)
set_option maxRecDepth 20000 in
theorem gX5_mend_X4_mendError : GoodIn wsX5_mend (wsV RX5 85 RX4 yX4_mendError wsX4_mendError) := goodIn_app (goodIn_of _ (by decide +kernel)) ggX5_mend_X4_mendError
set_option maxRecDepth 20000 in
theorem ggX5_mend_X1_keep : GoodIn wsX5_mend wsX1_keep := goodIn_r _ [27, 28, 29, 30, 31, 32, 26, 33, 34, 35, 36, 6, 37, 8, 38, 39, 40, 41, 42, 9, 43, 44, 45, 46, 47, 14, 48, 19, 49, 50, 76, 77, 63, 64, 65, 66, 67, 68, 69, 70, 71, 72, 73, 74, 75] (by decide +kernel) (by decide +kernel)
set_option maxRecDepth 20000 in
theorem gX5_mend_X1_keep : GoodIn wsX5_mend (wsV RX5 70 RX1 yX1_keep wsX1_keep) := goodIn_app (goodIn_of _ (by decide +kernel)) ggX5_mend_X1_keep
set_option maxRecDepth 20000 in
theorem ggX5_mend_X4_threadAgain : GoodIn wsX5_mend wsX4_threadAgain := goodIn_r _ [54, 9, 8, 45, 14, 63, 64, 65, 66, 67, 68, 69, 70, 71, 72, 73, 74, 75] (by decide +kernel) (by decide +kernel)
set_option maxRecDepth 20000 in
theorem gX5_mend_X4_threadAgain : GoodIn wsX5_mend (wsV RX5 89 RX4 yX4_threadAgain wsX4_threadAgain) := goodIn_app (goodIn_of _ (by decide +kernel)) ggX5_mend_X4_threadAgain
theorem dX5_mend_0 : decode cX5_mend 0 = .ok (.aload_n 0, 1) := by decide +kernel
theorem dX5_mend_1 : decode cX5_mend 1 = .ok (.getfield 10, 3) := by decide +kernel
theorem dX5_mend_4 : decode cX5_mend 4 = .ok (.iload_n 1, 1) := by decide +kernel
theorem dX5_mend_5 : decode cX5_mend 5 = .ok (.invokevirtual 85, 3) := by decide +kernel
theorem dX5_mend_8 : decode cX5_mend 8 = .ok (.istore_n 2, 1) := by decide +kernel
theorem dX5_mend_9 : decode cX5_mend 9 = .ok (.iload_n 2, 1) := by decide +kernel
theorem dX5_mend_10 : decode cX5_mend 10 = .ok (.ifCond .eq 5, 3) := by decide +kernel
theorem dX5_mend_13 : decode cX5_mend 13 = .ok (.iload_n 2, 1) := by decide +kernel
theorem dX5_mend_14 : decode cX5_mend 14 = .ok (.ireturn, 1) := by decide +kernel
theorem dX5_mend_15 : decode cX5_mend 15 = .ok (.aload_n 0, 1) := by decide +kernel
theorem dX5_mend_16 : decode cX5_mend 16 = .ok (.getfield 25, 3) := by decide +kernel
theorem dX5_mend_19 : decode cX5_mend 19 = .ok (.aload_n 0, 1) := by decide +kernel
theorem dX5_mend_20 : decode cX5_mend 20 = .ok (.getfield 10, 3) := by decide +kernel
theorem dX5_mend_23 : decode cX5_mend 23 = .ok (.invokevirtual 70, 3) := by decide +kernel
theorem dX5_mend_26 : decode cX5_mend 26 = .ok (.aload_n 0, 1) := by decide +kernel
theorem dX5_mend_27 : decode cX5_mend 27 = .ok (.getfield 10, 3) := by decide +kernel
theorem dX5_mend_30 : decode cX5_mend 30 = .ok (.iload_n 1, 1) := by decide +kernel
theorem dX5_mend_31 : decode cX5_mend 31 = .ok (.invokevirtual 89, 3) := by decide +kernel
theorem dX5_mend_34 : decode cX5_mend 34 = .ok (.ireturn, 1) := by decide +kernel
set_option maxRecDepth 20000 in
theorem ggX5_stamp_X4_fallenError : GoodIn wsX5_stamp wsX4_fallenError := goodIn_r _ [7, 8, 9, 10, 11, 6, 12, 13, 14, 15, 16, 63, 64, 65, 66, 67, 68, 69, 70, 71, 72, 73, 74, 75] (by decide +kernel) (by decide +kernel)
set_option maxRecDepth 20000 in
theorem gX5_stamp_X4_fallenError : GoodIn wsX5_stamp (wsV RX5 92 RX4 yX4_fallenError wsX4_fallenError) := goodIn_app (goodIn_of _ (by decide +kernel)) ggX5_stamp_X4_fallenError
set_option maxRecDepth 20000 in
theorem ggX5_stamp_X1_keep : GoodIn wsX5_stamp wsX1_keep := goodIn_r _ [21, 22, 23, 24, 25, 26, 20, 27, 28, 29, 30, 6, 31, 32, 33, 34, 35, 36, 37, 38, 39, 40, 41, 42, 43, 8, 44, 13, 45, 46, 76, 77, 63, 64, 65, 66, 67, 68, 69, 70, 71, 72, 73, 74, 75] (by decide +kernel) (by decide +kernel)
set_option maxRecDepth 20000 in
theorem gX5_stamp_X1_keep : GoodIn wsX5_stamp (wsV RX5 70 RX1 yX1_keep wsX1_keep) := goodIn_app (goodIn_of _ (by decide +kernel)) ggX5_stamp_X1_keep
set_option maxRecDepth 20000 in
theorem ggX5_stamp_X4_crush : GoodIn wsX5_stamp wsX4_crush := goodIn_r _ [50, 45, 51, 52, 53, 6, 54, 42, 43, 8, 63, 64, 65, 66, 67, 68, 69, 70, 71, 72, 73, 74, 75] (by decide +kernel) (by decide +kernel)
set_option maxRecDepth 20000 in
theorem gX5_stamp_X4_crush : GoodIn wsX5_stamp (wsV RX5 95 RX4 yX4_crush wsX4_crush) := goodIn_app (goodIn_of _ (by decide +kernel)) ggX5_stamp_X4_crush
theorem dX5_stamp_0 : decode cX5_stamp 0 = .ok (.aload_n 0, 1) := by decide +kernel
theorem dX5_stamp_1 : decode cX5_stamp 1 = .ok (.getfield 10, 3) := by decide +kernel
theorem dX5_stamp_4 : decode cX5_stamp 4 = .ok (.iload_n 1, 1) := by decide +kernel
theorem dX5_stamp_5 : decode cX5_stamp 5 = .ok (.invokevirtual 92, 3) := by decide +kernel
theorem dX5_stamp_8 : decode cX5_stamp 8 = .ok (.istore_n 2, 1) := by decide +kernel
theorem dX5_stamp_9 : decode cX5_stamp 9 = .ok (.iload_n 2, 1) := by decide +kernel
theorem dX5_stamp_10 : decode cX5_stamp 10 = .ok (.ifCond .eq 5, 3) := by decide +kernel
theorem dX5_stamp_13 : decode cX5_stamp 13 = .ok (.iload_n 2, 1) := by decide +kernel
theorem dX5_stamp_14 : decode cX5_stamp 14 = .ok (.ireturn, 1) := by decide +kernel
theorem dX5_stamp_15 : decode cX5_stamp 15 = .ok (.aload_n 0, 1) := by decide +kernel
theorem dX5_stamp_16 : decode cX5_stamp 16 = .ok (.getfield 25, 3) := by decide +kernel
theorem dX5_stamp_19 : decode cX5_stamp 19 = .ok (.aload_n 0, 1) := by decide +kernel
theorem dX5_stamp_20 : decode cX5_stamp 20 = .ok (.getfield 10, 3) := by decide +kernel
theorem dX5_stamp_23 : decode cX5_stamp 23 = .ok (.invokevirtual 70, 3) := by decide +kernel
theorem dX5_stamp_26 : decode cX5_stamp 26 = .ok (.aload_n 0, 1) := by decide +kernel
theorem dX5_stamp_27 : decode cX5_stamp 27 = .ok (.getfield 10, 3) := by decide +kernel
theorem dX5_stamp_30 : decode cX5_stamp 30 = .ok (.iload_n 1, 1) := by decide +kernel
theorem dX5_stamp_31 : decode cX5_stamp 31 = .ok (.invokevirtual 95, 3) := by decide +kernel
theorem dX5_stamp_34 : decode cX5_stamp 34 = .ok (.ireturn, 1) := by decide +kernel
set_option maxRecDepth 20000 in
theorem ggX5_boast_X4_hasConker : GoodIn wsX5_boast wsX4_hasConker := goodIn_r _ [9, 10, 11, 12, 13, 54, 55, 56, 57, 58, 59, 60, 61, 62, 63, 64, 65, 66] (by decide +kernel) (by decide +kernel)
set_option maxRecDepth 20000 in
theorem gX5_boast_X4_hasConker : GoodIn wsX5_boast (wsV RX5 98 RX4 yX4_hasConker wsX4_hasConker) := goodIn_app (goodIn_of _ (by decide +kernel)) ggX5_boast_X4_hasConker
set_option maxRecDepth 20000 in
theorem ggX5_boast_X5_isWithin : GoodIn wsX5_boast wsX5_isWithin := goodIn_r _ [13] (by decide +kernel) (by decide +kernel)
set_option maxRecDepth 20000 in
theorem gX5_boast_X5_isWithin : GoodIn wsX5_boast (va_wsS RX5 58 yX5_isWithin wsX5_isWithin) := goodIn_app (goodIn_of _ (by decide +kernel)) ggX5_boast_X5_isWithin
set_option maxRecDepth 20000 in
theorem ggX5_boast_X1_keep : GoodIn wsX5_boast wsX1_keep := goodIn_r _ [19, 20, 21, 22, 23, 24, 18, 25, 26, 27, 28, 8, 29, 30, 31, 32, 33, 34, 35, 36, 37, 38, 39, 40, 41, 42, 43, 10, 44, 45, 67, 68, 54, 55, 56, 57, 58, 59, 60, 61, 62, 63, 64, 65, 66] (by decide +kernel) (by decide +kernel)
set_option maxRecDepth 20000 in
theorem gX5_boast_X1_keep : GoodIn wsX5_boast (wsV RX5 70 RX1 yX1_keep wsX1_keep) := goodIn_app (goodIn_of _ (by decide +kernel)) ggX5_boast_X1_keep
theorem dX5_boast_0 : decode cX5_boast 0 = .ok (.aload_n 0, 1) := by decide +kernel
theorem dX5_boast_1 : decode cX5_boast 1 = .ok (.getfield 10, 3) := by decide +kernel
theorem dX5_boast_4 : decode cX5_boast 4 = .ok (.iload_n 1, 1) := by decide +kernel
theorem dX5_boast_5 : decode cX5_boast 5 = .ok (.invokevirtual 98, 3) := by decide +kernel
theorem dX5_boast_8 : decode cX5_boast 8 = .ok (.ifCond .ne 5, 3) := by decide +kernel
theorem dX5_boast_11 : decode cX5_boast 11 = .ok (.iconst (-1), 1) := by decide +kernel
theorem dX5_boast_12 : decode cX5_boast 12 = .ok (.ireturn, 1) := by decide +kernel
theorem dX5_boast_13 : decode cX5_boast 13 = .ok (.iload_n 2, 1) := by decide +kernel
theorem dX5_boast_14 : decode cX5_boast 14 = .ok (.iconst 0, 1) := by decide +kernel
theorem dX5_boast_15 : decode cX5_boast 15 = .ok (.bipush 99, 2) := by decide +kernel
theorem dX5_boast_17 : decode cX5_boast 17 = .ok (.invokestatic 58, 3) := by decide +kernel
theorem dX5_boast_20 : decode cX5_boast 20 = .ok (.ifCond .ne 6, 3) := by decide +kernel
theorem dX5_boast_23 : decode cX5_boast 23 = .ok (.bipush (-2), 2) := by decide +kernel
theorem dX5_boast_25 : decode cX5_boast 25 = .ok (.ireturn, 1) := by decide +kernel
theorem dX5_boast_26 : decode cX5_boast 26 = .ok (.aload_n 0, 1) := by decide +kernel
theorem dX5_boast_27 : decode cX5_boast 27 = .ok (.getfield 10, 3) := by decide +kernel
theorem dX5_boast_30 : decode cX5_boast 30 = .ok (.getfield 101, 3) := by decide +kernel
theorem dX5_boast_33 : decode cX5_boast 33 = .ok (.iload_n 1, 1) := by decide +kernel
theorem dX5_boast_34 : decode cX5_boast 34 = .ok (.iaload, 1) := by decide +kernel
theorem dX5_boast_35 : decode cX5_boast 35 = .ok (.iconst 2, 1) := by decide +kernel
theorem dX5_boast_36 : decode cX5_boast 36 = .ok (.if_icmp .ne 6, 3) := by decide +kernel
theorem dX5_boast_39 : decode cX5_boast 39 = .ok (.bipush (-4), 2) := by decide +kernel
theorem dX5_boast_41 : decode cX5_boast 41 = .ok (.ireturn, 1) := by decide +kernel
theorem dX5_boast_42 : decode cX5_boast 42 = .ok (.aload_n 0, 1) := by decide +kernel
theorem dX5_boast_43 : decode cX5_boast 43 = .ok (.getfield 25, 3) := by decide +kernel
theorem dX5_boast_46 : decode cX5_boast 46 = .ok (.aload_n 0, 1) := by decide +kernel
theorem dX5_boast_47 : decode cX5_boast 47 = .ok (.getfield 10, 3) := by decide +kernel
theorem dX5_boast_50 : decode cX5_boast 50 = .ok (.invokevirtual 70, 3) := by decide +kernel
theorem dX5_boast_53 : decode cX5_boast 53 = .ok (.aload_n 0, 1) := by decide +kernel
theorem dX5_boast_54 : decode cX5_boast 54 = .ok (.getfield 10, 3) := by decide +kernel
theorem dX5_boast_57 : decode cX5_boast 57 = .ok (.getfield 104, 3) := by decide +kernel
theorem dX5_boast_60 : decode cX5_boast 60 = .ok (.iload_n 1, 1) := by decide +kernel
theorem dX5_boast_61 : decode cX5_boast 61 = .ok (.iaload, 1) := by decide +kernel
theorem dX5_boast_62 : decode cX5_boast 62 = .ok (.istore_n 3, 1) := by decide +kernel
theorem dX5_boast_63 : decode cX5_boast 63 = .ok (.aload_n 0, 1) := by decide +kernel
theorem dX5_boast_64 : decode cX5_boast 64 = .ok (.getfield 10, 3) := by decide +kernel
theorem dX5_boast_67 : decode cX5_boast 67 = .ok (.getfield 104, 3) := by decide +kernel
theorem dX5_boast_70 : decode cX5_boast 70 = .ok (.iload_n 1, 1) := by decide +kernel
theorem dX5_boast_71 : decode cX5_boast 71 = .ok (.iload_n 2, 1) := by decide +kernel
theorem dX5_boast_72 : decode cX5_boast 72 = .ok (.iastore, 1) := by decide +kernel
theorem dX5_boast_73 : decode cX5_boast 73 = .ok (.iload_n 3, 1) := by decide +kernel
theorem dX5_boast_74 : decode cX5_boast 74 = .ok (.ireturn, 1) := by decide +kernel
set_option maxRecDepth 20000 in
theorem ggX5_doubt_X5_isPlayer : GoodIn wsX5_doubt wsX5_isPlayer := goodIn_r _ [8, 9, 10, 7, 11] (by decide +kernel) (by decide +kernel)
set_option maxRecDepth 20000 in
theorem gX5_doubt_X5_isPlayer : GoodIn wsX5_doubt (va_wsS RX5 54 yX5_isPlayer wsX5_isPlayer) := goodIn_app (goodIn_of _ (by decide +kernel)) ggX5_doubt_X5_isPlayer
