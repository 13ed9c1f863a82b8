theorem dX6_spare_13 : decode cX6_spare 13 = .ok (.iadd, 1) := by decide +kernel
theorem dX6_spare_14 : decode cX6_spare 14 = .ok (.ireturn, 1) := by decide +kernel
set_option maxRecDepth 20000 in
theorem ggX6_mendError_X6_isConker : GoodIn wsX6_mendError wsX6_isConker := goodIn_r _ [6, 1, 7, 8, 5, 9, 17, 18, 19, 20, 21, 22, 23, 24, 25, 26, 27, 28, 29] (by decide +kernel) (by decide +kernel)
set_option maxRecDepth 20000 in
theorem gX6_mendError_X6_isConker : GoodIn wsX6_mendError (wsV RX6 59 RX6 yX6_isConker wsX6_isConker) := goodIn_app (goodIn_of _ (by decide +kernel)) ggX6_mendError_X6_isConker
set_option maxRecDepth 20000 in
theorem ggX6_mendError_X6_at : GoodIn wsX6_mendError wsX6_at := goodIn_r _ [12] (by decide +kernel) (by decide +kernel)
set_option maxRecDepth 20000 in
theorem gX6_mendError_X6_at : GoodIn wsX6_mendError (va_wsS RX6 30 yX6_at wsX6_at) := goodIn_app (goodIn_of _ (by decide +kernel)) ggX6_mendError_X6_at
set_option maxRecDepth 20000 in
theorem ggX6_mendError_X6_spare : GoodIn wsX6_mendError wsX6_spare := goodIn_r _ [16, 1, 10, 11, 5, 12, 17, 18, 19, 20, 21, 22, 23, 24, 25, 26, 27, 28, 29] (by decide +kernel) (by decide +kernel)
set_option maxRecDepth 20000 in
theorem gX6_mendError_X6_spare : GoodIn wsX6_mendError (wsV RX6 67 RX6 yX6_spare wsX6_spare) := goodIn_app (goodIn_of _ (by decide +kernel)) ggX6_mendError_X6_spare
theorem dX6_mendError_0 : decode cX6_mendError 0 = .ok (.aload_n 0, 1) := by decide +kernel
theorem dX6_mendError_1 : decode cX6_mendError 1 = .ok (.iload_n 1, 1) := by decide +kernel
theorem dX6_mendError_2 : decode cX6_mendError 2 = .ok (.invokevirtual 59, 3) := by decide +kernel
theorem dX6_mendError_5 : decode cX6_mendError 5 = .ok (.ifCond .ne 7, 3) := by decide +kernel
theorem dX6_mendError_8 : decode cX6_mendError 8 = .ok (.iconst (-1), 1) := by decide +kernel
theorem dX6_mendError_9 : decode cX6_mendError 9 = .ok (.goto 39, 3) := by decide +kernel
theorem dX6_mendError_12 : decode cX6_mendError 12 = .ok (.aload_n 0, 1) := by decide +kernel
theorem dX6_mendError_13 : decode cX6_mendError 13 = .ok (.getfield 7, 3) := by decide +kernel
theorem dX6_mendError_16 : decode cX6_mendError 16 = .ok (.iconst 0, 1) := by decide +kernel
theorem dX6_mendError_17 : decode cX6_mendError 17 = .ok (.iload_n 1, 1) := by decide +kernel
theorem dX6_mendError_18 : decode cX6_mendError 18 = .ok (.invokestatic 30, 3) := by decide +kernel
theorem dX6_mendError_21 : decode cX6_mendError 21 = .ok (.bipush 6, 2) := by decide +kernel
theorem dX6_mendError_23 : decode cX6_mendError 23 = .ok (.iadd, 1) := by decide +kernel
theorem dX6_mendError_24 : decode cX6_mendError 24 = .ok (.iaload, 1) := by decide +kernel
theorem dX6_mendError_25 : decode cX6_mendError 25 = .ok (.iconst 1, 1) := by decide +kernel
theorem dX6_mendError_26 : decode cX6_mendError 26 = .ok (.if_icmp .ne 16, 3) := by decide +kernel
theorem dX6_mendError_29 : decode cX6_mendError 29 = .ok (.aload_n 0, 1) := by decide +kernel
theorem dX6_mendError_30 : decode cX6_mendError 30 = .ok (.getfield 7, 3) := by decide +kernel
theorem dX6_mendError_33 : decode cX6_mendError 33 = .ok (.aload_n 0, 1) := by decide +kernel
theorem dX6_mendError_34 : decode cX6_mendError 34 = .ok (.iload_n 1, 1) := by decide +kernel
theorem dX6_mendError_35 : decode cX6_mendError 35 = .ok (.invokevirtual 67, 3) := by decide +kernel
theorem dX6_mendError_38 : decode cX6_mendError 38 = .ok (.iaload, 1) := by decide +kernel
theorem dX6_mendError_39 : decode cX6_mendError 39 = .ok (.ifCond .ne 8, 3) := by decide +kernel
theorem dX6_mendError_42 : decode cX6_mendError 42 = .ok (.bipush (-4), 2) := by decide +kernel
theorem dX6_mendError_44 : decode cX6_mendError 44 = .ok (.goto 4, 3) := by decide +kernel
theorem dX6_mendError_47 : decode cX6_mendError 47 = .ok (.iconst 0, 1) := by decide +kernel
theorem dX6_mendError_48 : decode cX6_mendError 48 = .ok (.ireturn, 1) := by decide +kernel
set_option maxRecDepth 20000 in
theorem ggX6_stampError_X6_isConker : GoodIn wsX6_stampError wsX6_isConker := goodIn_r _ [6, 1, 7, 8, 5, 9, 13, 14, 15, 16, 17, 18, 19, 20, 21, 22, 23, 24, 25] (by decide +kernel) (by decide +kernel)
set_option maxRecDepth 20000 in
theorem gX6_stampError_X6_isConker : GoodIn wsX6_stampError (wsV RX6 59 RX6 yX6_isConker wsX6_isConker) := goodIn_app (goodIn_of _ (by decide +kernel)) ggX6_stampError_X6_isConker
set_option maxRecDepth 20000 in
theorem ggX6_stampError_X6_at : GoodIn wsX6_stampError wsX6_at := goodIn_r _ [12] (by decide +kernel) (by decide +kernel)
set_option maxRecDepth 20000 in
theorem gX6_stampError_X6_at : GoodIn wsX6_stampError (va_wsS RX6 30 yX6_at wsX6_at) := goodIn_app (goodIn_of _ (by decide +kernel)) ggX6_stampError_X6_at
theorem dX6_stampError_0 : decode cX6_stampError 0 = .ok (.aload_n 0, 1) := by decide +kernel
theorem dX6_stampError_1 : decode cX6_stampError 1 = .ok (.iload_n 1, 1) := by decide +kernel
theorem dX6_stampError_2 : decode cX6_stampError 2 = .ok (.invokevirtual 59, 3) := by decide +kernel
theorem dX6_stampError_5 : decode cX6_stampError 5 = .ok (.ifCond .ne 7, 3) := by decide +kernel
theorem dX6_stampError_8 : decode cX6_stampError 8 = .ok (.iconst (-1), 1) := by decide +kernel
theorem dX6_stampError_9 : decode cX6_stampError 9 = .ok (.goto 26, 3) := by decide +kernel
theorem dX6_stampError_12 : decode cX6_stampError 12 = .ok (.aload_n 0, 1) := by decide +kernel
theorem dX6_stampError_13 : decode cX6_stampError 13 = .ok (.getfield 7, 3) := by decide +kernel
theorem dX6_stampError_16 : decode cX6_stampError 16 = .ok (.iconst 0, 1) := by decide +kernel
theorem dX6_stampError_17 : decode cX6_stampError 17 = .ok (.iload_n 1, 1) := by decide +kernel
theorem dX6_stampError_18 : decode cX6_stampError 18 = .ok (.invokestatic 30, 3) := by decide +kernel
theorem dX6_stampError_21 : decode cX6_stampError 21 = .ok (.bipush 6, 2) := by decide +kernel
theorem dX6_stampError_23 : decode cX6_stampError 23 = .ok (.iadd, 1) := by decide +kernel
theorem dX6_stampError_24 : decode cX6_stampError 24 = .ok (.iaload, 1) := by decide +kernel
theorem dX6_stampError_25 : decode cX6_stampError 25 = .ok (.iconst 1, 1) := by decide +kernel
theorem dX6_stampError_26 : decode cX6_stampError 26 = .ok (.if_icmp .eq 8, 3) := by decide +kernel
theorem dX6_stampError_29 : decode cX6_stampError 29 = .ok (.bipush (-4), 2) := by decide +kernel
theorem dX6_stampError_31 : decode cX6_stampError 31 = .ok (.goto 4, 3) := by decide +kernel
theorem dX6_stampError_34 : decode cX6_stampError 34 = .ok (.iconst 0, 1) := by decide +kernel
theorem dX6_stampError_35 : decode cX6_stampError 35 = .ok (.ireturn, 1) := by decide +kernel
set_option maxRecDepth 20000 in
theorem ggX6_mends_X6_at : GoodIn wsX6_mends wsX6_at := goodIn_r _ [5] (by decide +kernel) (by decide +kernel)
set_option maxRecDepth 20000 in
theorem gX6_mends_X6_at : GoodIn wsX6_mends (va_wsS RX6 30 yX6_at wsX6_at) := goodIn_app (goodIn_of _ (by decide +kernel)) ggX6_mends_X6_at
set_option maxRecDepth 20000 in
theorem ggX6_mends_X6_spare : GoodIn wsX6_mends wsX6_spare := goodIn_r _ [9, 1, 2, 3, 4, 5, 10, 11, 12, 13, 14, 15, 16, 17, 18, 19, 20, 21, 22] (by decide +kernel) (by decide +kernel)
set_option maxRecDepth 20000 in
theorem gX6_mends_X6_spare : GoodIn wsX6_mends (wsV RX6 67 RX6 yX6_spare wsX6_spare) := goodIn_app (goodIn_of _ (by decide +kernel)) ggX6_mends_X6_spare
theorem dX6_mends_0 : decode cX6_mends 0 = .ok (.aload_n 0, 1) := by decide +kernel
theorem dX6_mends_1 : decode cX6_mends 1 = .ok (.getfield 7, 3) := by decide +kernel
theorem dX6_mends_4 : decode cX6_mends 4 = .ok (.iconst 0, 1) := by decide +kernel
theorem dX6_mends_5 : decode cX6_mends 5 = .ok (.iload_n 1, 1) := by decide +kernel
theorem dX6_mends_6 : decode cX6_mends 6 = .ok (.invokestatic 30, 3) := by decide +kernel
theorem dX6_mends_9 : decode cX6_mends 9 = .ok (.bipush 6, 2) := by decide +kernel
theorem dX6_mends_11 : decode cX6_mends 11 = .ok (.iadd, 1) := by decide +kernel
theorem dX6_mends_12 : decode cX6_mends 12 = .ok (.iconst 0, 1) := by decide +kernel
theorem dX6_mends_13 : decode cX6_mends 13 = .ok (.iastore, 1) := by decide +kernel
theorem dX6_mends_14 : decode cX6_mends 14 = .ok (.aload_n 0, 1) := by decide +kernel
theorem dX6_mends_15 : decode cX6_mends 15 = .ok (.getfield 7, 3) := by decide +kernel
theorem dX6_mends_18 : decode cX6_mends 18 = .ok (.iconst 0, 1) := by decide +kernel
theorem dX6_mends_19 : decode cX6_mends 19 = .ok (.iload_n 1, 1) := by decide +kernel
theorem dX6_mends_20 : decode cX6_mends 20 = .ok (.invokestatic 30, 3) := by decide +kernel
theorem dX6_mends_23 : decode cX6_mends 23 = .ok (.iconst 3, 1) := by decide +kernel
theorem dX6_mends_24 : decode cX6_mends 24 = .ok (.iadd, 1) := by decide +kernel
theorem dX6_mends_25 : decode cX6_mends 25 = .ok (.iconst 0, 1) := by decide +kernel
theorem dX6_mends_26 : decode cX6_mends 26 = .ok (.iastore, 1) := by decide +kernel
theorem dX6_mends_27 : decode cX6_mends 27 = .ok (.aload_n 0, 1) := by decide +kernel
theorem dX6_mends_28 : decode cX6_mends 28 = .ok (.getfield 7, 3) := by decide +kernel
theorem dX6_mends_31 : decode cX6_mends 31 = .ok (.aload_n 0, 1) := by decide +kernel
theorem dX6_mends_32 : decode cX6_mends 32 = .ok (.iload_n 1, 1) := by decide +kernel
theorem dX6_mends_33 : decode cX6_mends 33 = .ok (.invokevirtual 67, 3) := by decide +kernel
theorem dX6_mends_36 : decode cX6_mends 36 = .ok (.dup2, 1) := by decide +kernel
theorem dX6_mends_37 : decode cX6_mends 37 = .ok (.iaload, 1) := by decide +kernel
theorem dX6_mends_38 : decode cX6_mends 38 = .ok (.iconst 1, 1) := by decide +kernel
theorem dX6_mends_39 : decode cX6_mends 39 = .ok (.isub, 1) := by decide +kernel
theorem dX6_mends_40 : decode cX6_mends 40 = .ok (.iastore, 1) := by decide +kernel
theorem dX6_mends_41 : decode cX6_mends 41 = .ok (.aload_n 0, 1) := by decide +kernel
theorem dX6_mends_42 : decode cX6_mends 42 = .ok (.getfield 7, 3) := by decide +kernel
theorem dX6_mends_45 : decode cX6_mends 45 = .ok (.aload_n 0, 1) := by decide +kernel
theorem dX6_mends_46 : decode cX6_mends 46 = .ok (.iload_n 1, 1) := by decide +kernel
theorem dX6_mends_47 : decode cX6_mends 47 = .ok (.invokevirtual 67, 3) := by decide +kernel
theorem dX6_mends_50 : decode cX6_mends 50 = .ok (.iaload, 1) := by decide +kernel
theorem dX6_mends_51 : decode cX6_mends 51 = .ok (.ireturn, 1) := by decide +kernel
set_option maxRecDepth 20000 in
theorem ggX6_stamps_X6_at : GoodIn wsX6_stamps wsX6_at := goodIn_r _ [5] (by decide +kernel) (by decide +kernel)
set_option maxRecDepth 20000 in
theorem gX6_stamps_X6_at : GoodIn wsX6_stamps (va_wsS RX6 30 yX6_at wsX6_at) := goodIn_app (goodIn_of _ (by decide +kernel)) ggX6_stamps_X6_at
set_option maxRecDepth 20000 in
theorem ggX6_stamps_X6_smashes : GoodIn wsX6_stamps wsX6_smashes := goodIn_r _ [9, 1, 10, 11, 12, 13, 14, 15, 16, 17, 18, 19, 20, 21, 22] (by decide +kernel) (by decide +kernel)
set_option maxRecDepth 20000 in
theorem gX6_stamps_X6_smashes : GoodIn wsX6_stamps (wsV RX6 37 RX6 yX6_smashes wsX6_smashes) := goodIn_app (goodIn_of _ (by decide +kernel)) ggX6_stamps_X6_smashes
theorem dX6_stamps_0 : decode cX6_stamps 0 = .ok (.aload_n 0, 1) := by decide +kernel
theorem dX6_stamps_1 : decode cX6_stamps 1 = .ok (.getfield 7, 3) := by decide +kernel
theorem dX6_stamps_4 : decode cX6_stamps 4 = .ok (.iconst 0, 1) := by decide +kernel
theorem dX6_stamps_5 : decode cX6_stamps 5 = .ok (.iload_n 1, 1) := by decide +kernel
theorem dX6_stamps_6 : decode cX6_stamps 6 = .ok (.invokestatic 30, 3) := by decide +kernel
theorem dX6_stamps_9 : decode cX6_stamps 9 = .ok (.iconst 4, 1) := by decide +kernel
theorem dX6_stamps_10 : decode cX6_stamps 10 = .ok (.iadd, 1) := by decide +kernel
theorem dX6_stamps_11 : decode cX6_stamps 11 = .ok (.iaload, 1) := by decide +kernel
theorem dX6_stamps_12 : decode cX6_stamps 12 = .ok (.istore_n 2, 1) := by decide +kernel
theorem dX6_stamps_13 : decode cX6_stamps 13 = .ok (.aload_n 0, 1) := by decide +kernel
theorem dX6_stamps_14 : decode cX6_stamps 14 = .ok (.getfield 7, 3) := by decide +kernel
theorem dX6_stamps_17 : decode cX6_stamps 17 = .ok (.iconst 1, 1) := by decide +kernel
theorem dX6_stamps_18 : decode cX6_stamps 18 = .ok (.dup2, 1) := by decide +kernel
theorem dX6_stamps_19 : decode cX6_stamps 19 = .ok (.iaload, 1) := by decide +kernel
theorem dX6_stamps_20 : decode cX6_stamps 20 = .ok (.iload_n 2, 1) := by decide +kernel
theorem dX6_stamps_21 : decode cX6_stamps 21 = .ok (.iadd, 1) := by decide +kernel
theorem dX6_stamps_22 : decode cX6_stamps 22 = .ok (.iastore, 1) := by decide +kernel
theorem dX6_stamps_23 : decode cX6_stamps 23 = .ok (.aload_n 0, 1) := by decide +kernel
theorem dX6_stamps_24 : decode cX6_stamps 24 = .ok (.iconst 0, 1) := by decide +kernel
theorem dX6_stamps_25 : decode cX6_stamps 25 = .ok (.iload_n 1, 1) := by decide +kernel
theorem dX6_stamps_26 : decode cX6_stamps 26 = .ok (.invokestatic 30, 3) := by decide +kernel
theorem dX6_stamps_29 : decode cX6_stamps 29 = .ok (.bipush (-5), 2) := by decide +kernel
theorem dX6_stamps_31 : decode cX6_stamps 31 = .ok (.invokevirtual 37, 3) := by decide +kernel
theorem dX6_stamps_34 : decode cX6_stamps 34 = .ok (.iload_n 2, 1) := by decide +kernel
theorem dX6_stamps_35 : decode cX6_stamps 35 = .ok (.ireturn, 1) := by decide +kernel
set_option maxRecDepth 20000 in
theorem ggX6_thread_X6_isPlayer : GoodIn wsX6_thread wsX6_isPlayer := goodIn_r _ [5, 6, 7, 4, 8] (by decide +kernel) (by decide +kernel)
set_option maxRecDepth 20000 in
theorem gX6_thread_X6_isPlayer : GoodIn wsX6_thread (va_wsS RX6 71 yX6_isPlayer wsX6_isPlayer) := goodIn_app (goodIn_of _ (by decide +kernel)) ggX6_thread_X6_isPlayer
set_option maxRecDepth 20000 in
theorem ggX6_thread_X6_in : GoodIn wsX6_thread wsX6_in := goodIn_r _ [8] (by decide +kernel) (by decide +kernel)
set_option maxRecDepth 20000 in
theorem gX6_thread_X6_in : GoodIn wsX6_thread (va_wsS RX6 55 yX6_in wsX6_in) := goodIn_app (goodIn_of _ (by decide +kernel)) ggX6_thread_X6_in
set_option maxRecDepth 20000 in
theorem ggX6_thread_X6_records : GoodIn wsX6_thread wsX6_records := goodIn_r _ [12, 13, 14, 15, 16, 4, 17, 1, 21, 22, 23, 24, 25, 26, 27, 28, 29, 30, 31, 32, 33] (by decide +kernel) (by decide +kernel)
set_option maxRecDepth 20000 in
theorem gX6_thread_X6_records : GoodIn wsX6_thread (wsV RX6 74 RX6 yX6_records wsX6_records) := goodIn_app (goodIn_of _ (by decide +kernel)) ggX6_thread_X6_records
set_option maxRecDepth 20000 in
theorem ggX6_thread_X6_at : GoodIn wsX6_thread wsX6_at := goodIn_r _ [20] (by decide +kernel) (by decide +kernel)
set_option maxRecDepth 20000 in
theorem gX6_thread_X6_at : GoodIn wsX6_thread (va_wsS RX6 30 yX6_at wsX6_at) := goodIn_app (goodIn_of _ (by decide +kernel)) ggX6_thread_X6_at
theorem dX6_thread_0 : decode cX6_thread 0 = .ok (.iload_n 1, 1) := by decide +kernel
theorem dX6_thread_1 : decode cX6_thread 1 = .ok (.invokestatic 71, 3) := by decide +kernel
theorem dX6_thread_4 : decode cX6_thread 4 = .ok (.ifCond .ne 5, 3) := by decide +kernel
theorem dX6_thread_7 : decode cX6_thread 7 = .ok (.iconst (-1), 1) := by decide +kernel
theorem dX6_thread_8 : decode cX6_thread 8 = .ok (.ireturn, 1) := by decide +kernel
theorem dX6_thread_9 : decode cX6_thread 9 = .ok (.iload_n 2, 1) := by decide +kernel
theorem dX6_thread_10 : decode cX6_thread 10 = .ok (.iconst 1, 1) := by decide +kernel
theorem dX6_thread_11 : decode cX6_thread 11 = .ok (.bipush 9, 2) := by decide +kernel
theorem dX6_thread_13 : decode cX6_thread 13 = .ok (.invokestatic 55, 3) := by decide +kernel
theorem dX6_thread_16 : decode cX6_thread 16 = .ok (.ifCond .ne 6, 3) := by decide +kernel
theorem dX6_thread_19 : decode cX6_thread 19 = .ok (.bipush (-2), 2) := by decide +kernel
theorem dX6_thread_21 : decode cX6_thread 21 = .ok (.ireturn, 1) := by decide +kernel
theorem dX6_thread_22 : decode cX6_thread 22 = .ok (.aload_n 0, 1) := by decide +kernel
theorem dX6_thread_23 : decode cX6_thread 23 = .ok (.getfield 7, 3) := by decide +kernel
theorem dX6_thread_26 : decode cX6_thread 26 = .ok (.iconst 4, 1) := by decide +kernel
theorem dX6_thread_27 : decode cX6_thread 27 = .ok (.iconst 2, 1) := by decide +kernel
theorem dX6_thread_28 : decode cX6_thread 28 = .ok (.iload_n 1, 1) := by decide +kernel
theorem dX6_thread_29 : decode cX6_thread 29 = .ok (.imul, 1) := by decide +kernel
theorem dX6_thread_30 : decode cX6_thread 30 = .ok (.iadd, 1) := by decide +kernel
theorem dX6_thread_31 : decode cX6_thread 31 = .ok (.iaload, 1) := by decide +kernel
theorem dX6_thread_32 : decode cX6_thread 32 = .ok (.ifCond .ne 6, 3) := by decide +kernel
theorem dX6_thread_35 : decode cX6_thread 35 = .ok (.bipush (-4), 2) := by decide +kernel
theorem dX6_thread_37 : decode cX6_thread 37 = .ok (.ireturn, 1) := by decide +kernel
theorem dX6_thread_38 : decode cX6_thread 38 = .ok (.aload_n 0, 1) := by decide +kernel
theorem dX6_thread_39 : decode cX6_thread 39 = .ok (.getfield 7, 3) := by decide +kernel
theorem dX6_thread_42 : decode cX6_thread 42 = .ok (.iconst 0, 1) := by decide +kernel
theorem dX6_thread_43 : decode cX6_thread 43 = .ok (.iaload, 1) := by decide +kernel
theorem dX6_thread_44 : decode cX6_thread 44 = .ok (.bipush 30, 2) := by decide +kernel
theorem dX6_thread_46 : decode cX6_thread 46 = .ok (.if_icmp .ne 6, 3) := by decide +kernel
theorem dX6_thread_49 : decode cX6_thread 49 = .ok (.bipush (-3), 2) := by decide +kernel
theorem dX6_thread_51 : decode cX6_thread 51 = .ok (.ireturn, 1) := by decide +kernel
theorem dX6_thread_52 : decode cX6_thread 52 = .ok (.aload_n 0, 1) := by decide +kernel
theorem dX6_thread_53 : decode cX6_thread 53 = .ok (.invokevirtual 74, 3) := by decide +kernel
theorem dX6_thread_56 : decode cX6_thread 56 = .ok (.iconst 0, 1) := by decide +kernel
theorem dX6_thread_57 : decode cX6_thread 57 = .ok (.aload_n 0, 1) := by decide +kernel
theorem dX6_thread_58 : decode cX6_thread 58 = .ok (.getfield 7, 3) := by decide +kernel
theorem dX6_thread_61 : decode cX6_thread 61 = .ok (.iconst 0, 1) := by decide +kernel
theorem dX6_thread_62 : decode cX6_thread 62 = .ok (.iaload, 1) := by decide +kernel
theorem dX6_thread_63 : decode cX6_thread 63 = .ok (.invokestatic 30, 3) := by decide +kernel
theorem dX6_thread_66 : decode cX6_thread 66 = .ok (.istore_n 3, 1) := by decide +kernel
theorem dX6_thread_67 : decode cX6_thread 67 = .ok (.iconst 0, 1) := by decide +kernel
theorem dX6_thread_68 : decode cX6_thread 68 = .ok (.istore 4, 2) := by decide +kernel
theorem dX6_thread_70 : decode cX6_thread 70 = .ok (.iload 4, 2) := by decide +kernel
theorem dX6_thread_72 : decode cX6_thread 72 = .ok (.bipush 8, 2) := by decide +kernel
theorem dX6_thread_74 : decode cX6_thread 74 = .ok (.if_icmp .ge 56, 3) := by decide +kernel
theorem dX6_thread_77 : decode cX6_thread 77 = .ok (.aload_n 0, 1) := by decide +kernel
theorem dX6_thread_78 : decode cX6_thread 78 = .ok (.getfield 7, 3) := by decide +kernel
theorem dX6_thread_81 : decode cX6_thread 81 = .ok (.iload_n 3, 1) := by decide +kernel
theorem dX6_thread_82 : decode cX6_thread 82 = .ok (.iload 4, 2) := by decide +kernel
theorem dX6_thread_84 : decode cX6_thread 84 = .ok (.iadd, 1) := by decide +kernel
theorem dX6_thread_85 : decode cX6_thread 85 = .ok (.iload 4, 2) := by decide +kernel
theorem dX6_thread_87 : decode cX6_thread 87 = .ok (.ifCond .ne 7, 3) := by decide +kernel
theorem dX6_thread_90 : decode cX6_thread 90 = .ok (.iload_n 1, 1) := by decide +kernel
theorem dX6_thread_91 : decode cX6_thread 91 = .ok (.goto 32, 3) := by decide +kernel
theorem dX6_thread_94 : decode cX6_thread 94 = .ok (.iload 4, 2) := by decide +kernel
theorem dX6_thread_96 : decode cX6_thread 96 = .ok (.iconst 1, 1) := by decide +kernel
theorem dX6_thread_97 : decode cX6_thread 97 = .ok (.if_icmp .ne 7, 3) := by decide +kernel
theorem dX6_thread_100 : decode cX6_thread 100 = .ok (.iload_n 2, 1) := by decide +kernel
theorem dX6_thread_101 : decode cX6_thread 101 = .ok (.goto 22, 3) := by decide +kernel
theorem dX6_thread_104 : decode cX6_thread 104 = .ok (.iload 4, 2) := by decide +kernel
theorem dX6_thread_106 : decode cX6_thread 106 = .ok (.iconst 5, 1) := by decide +kernel
theorem dX6_thread_107 : decode cX6_thread 107 = .ok (.if_icmp .eq 10, 3) := by decide +kernel
theorem dX6_thread_110 : decode cX6_thread 110 = .ok (.iload 4, 2) := by decide +kernel
theorem dX6_thread_112 : decode cX6_thread 112 = .ok (.bipush 7, 2) := by decide +kernel
theorem dX6_thread_114 : decode cX6_thread 114 = .ok (.if_icmp .ne 8, 3) := by decide +kernel
theorem dX6_thread_117 : decode cX6_thread 117 = .ok (.bipush (-5), 2) := by decide +kernel
theorem dX6_thread_119 : decode cX6_thread 119 = .ok (.goto 4, 3) := by decide +kernel
theorem dX6_thread_122 : decode cX6_thread 122 = .ok (.iconst 0, 1) := by decide +kernel
theorem dX6_thread_123 : decode cX6_thread 123 = .ok (.iastore, 1) := by decide +kernel
theorem dX6_thread_124 : decode cX6_thread 124 = .ok (.iinc 4 1, 3) := by decide +kernel
theorem dX6_thread_127 : decode cX6_thread 127 = .ok (.goto (-57), 3) := by decide +kernel
theorem dX6_thread_130 : decode cX6_thread 130 = .ok (.aload_n 0, 1) := by decide +kernel
theorem dX6_thread_131 : decode cX6_thread 131 = .ok (.getfield 7, 3) := by decide +kernel
theorem dX6_thread_134 : decode cX6_thread 134 = .ok (.iconst 4, 1) := by decide +kernel
theorem dX6_thread_135 : decode cX6_thread 135 = .ok (.iconst 2, 1) := by decide +kernel
theorem dX6_thread_136 : decode cX6_thread 136 = .ok (.iload_n 1, 1) := by decide +kernel
theorem dX6_thread_137 : decode cX6_thread 137 = .ok (.imul, 1) := by decide +kernel
theorem dX6_thread_138 : decode cX6_thread 138 = .ok (.iadd, 1) := by decide +kernel
theorem dX6_thread_139 : decode cX6_thread 139 = .ok (.dup2, 1) := by decide +kernel
theorem dX6_thread_140 : decode cX6_thread 140 = .ok (.iaload, 1) := by decide +kernel
theorem dX6_thread_141 : decode cX6_thread 141 = .ok (.iconst 1, 1) := by decide +kernel
theorem dX6_thread_142 : decode cX6_thread 142 = .ok (.isub, 1) := by decide +kernel
theorem dX6_thread_143 : decode cX6_thread 143 = .ok (.iastore, 1) := by decide +kernel
theorem dX6_thread_144 : decode cX6_thread 144 = .ok (.aload_n 0, 1) := by decide +kernel
theorem dX6_thread_145 : decode cX6_thread 145 = .ok (.getfield 7, 3) := by decide +kernel
theorem dX6_thread_148 : decode cX6_thread 148 = .ok (.iconst 0, 1) := by decide +kernel
theorem dX6_thread_149 : decode cX6_thread 149 = .ok (.dup2, 1) := by decide +kernel
theorem dX6_thread_150 : decode cX6_thread 150 = .ok (.iaload, 1) := by decide +kernel
theorem dX6_thread_151 : decode cX6_thread 151 = .ok (.iconst 1, 1) := by decide +kernel
theorem dX6_thread_152 : decode cX6_thread 152 = .ok (.iadd, 1) := by decide +kernel
theorem dX6_thread_153 : decode cX6_thread 153 = .ok (.iastore, 1) := by decide +kernel
theorem dX6_thread_154 : decode cX6_thread 154 = .ok (.aload_n 0, 1) := by decide +kernel
theorem dX6_thread_155 : decode cX6_thread 155 = .ok (.getfield 7, 3) := by decide +kernel
theorem dX6_thread_158 : decode cX6_thread 158 = .ok (.iconst 0, 1) := by decide +kernel
theorem dX6_thread_159 : decode cX6_thread 159 = .ok (.iaload, 1) := by decide +kernel
theorem dX6_thread_160 : decode cX6_thread 160 = .ok (.iconst 1, 1) := by decide +kernel
theorem dX6_thread_161 : decode cX6_thread 161 = .ok (.isub, 1) := by decide +kernel
theorem dX6_thread_162 : decode cX6_thread 162 = .ok (.ireturn, 1) := by decide +kernel
set_option maxRecDepth 20000 in
theorem ggX6_give_X6_isPlayer : GoodIn wsX6_give wsX6_isPlayer := goodIn_r _ [5, 6, 7, 4, 8] (by decide +kernel) (by decide +kernel)
set_option maxRecDepth 20000 in
theorem gX6_give_X6_isPlayer : GoodIn wsX6_give (va_wsS RX6 71 yX6_isPlayer wsX6_isPlayer) := goodIn_app (goodIn_of _ (by decide +kernel)) ggX6_give_X6_isPlayer
set_option maxRecDepth 20000 in
theorem ggX6_give_X6_in : GoodIn wsX6_give wsX6_in := goodIn_r _ [8] (by decide +kernel) (by decide +kernel)
set_option maxRecDepth 20000 in
theorem gX6_give_X6_in : GoodIn wsX6_give (va_wsS RX6 55 yX6_in wsX6_in) := goodIn_app (goodIn_of _ (by decide +kernel)) ggX6_give_X6_in
set_option maxRecDepth 20000 in
theorem ggX6_give_X6_records : GoodIn wsX6_give wsX6_records := goodIn_r _ [12, 13, 14, 15, 16, 4, 17, 1, 18, 19, 20, 21, 22, 23, 24, 25, 26, 27, 28, 29, 30] (by decide +kernel) (by decide +kernel)
set_option maxRecDepth 20000 in
theorem gX6_give_X6_records : GoodIn wsX6_give (wsV RX6 74 RX6 yX6_records wsX6_records) := goodIn_app (goodIn_of _ (by decide +kernel)) ggX6_give_X6_records
theorem dX6_give_0 : decode cX6_give 0 = .ok (.iload_n 1, 1) := by decide +kernel
theorem dX6_give_1 : decode cX6_give 1 = .ok (.invokestatic 71, 3) := by decide +kernel
theorem dX6_give_4 : decode cX6_give 4 = .ok (.ifCond .ne 5, 3) := by decide +kernel
theorem dX6_give_7 : decode cX6_give 7 = .ok (.iconst (-1), 1) := by decide +kernel
theorem dX6_give_8 : decode cX6_give 8 = .ok (.ireturn, 1) := by decide +kernel
theorem dX6_give_9 : decode cX6_give 9 = .ok (.iload_n 2, 1) := by decide +kernel
theorem dX6_give_10 : decode cX6_give 10 = .ok (.iconst 1, 1) := by decide +kernel
theorem dX6_give_11 : decode cX6_give 11 = .ok (.bipush 9, 2) := by decide +kernel
theorem dX6_give_13 : decode cX6_give 13 = .ok (.invokestatic 55, 3) := by decide +kernel
theorem dX6_give_16 : decode cX6_give 16 = .ok (.ifCond .ne 6, 3) := by decide +kernel
theorem dX6_give_19 : decode cX6_give 19 = .ok (.bipush (-2), 2) := by decide +kernel
theorem dX6_give_21 : decode cX6_give 21 = .ok (.ireturn, 1) := by decide +kernel
theorem dX6_give_22 : decode cX6_give 22 = .ok (.aload_n 0, 1) := by decide +kernel
theorem dX6_give_23 : decode cX6_give 23 = .ok (.getfield 7, 3) := by decide +kernel
theorem dX6_give_26 : decode cX6_give 26 = .ok (.iconst 4, 1) := by decide +kernel
theorem dX6_give_27 : decode cX6_give 27 = .ok (.iconst 2, 1) := by decide +kernel
theorem dX6_give_28 : decode cX6_give 28 = .ok (.iload_n 1, 1) := by decide +kernel
theorem dX6_give_29 : decode cX6_give 29 = .ok (.imul, 1) := by decide +kernel
theorem dX6_give_30 : decode cX6_give 30 = .ok (.iadd, 1) := by decide +kernel
theorem dX6_give_31 : decode cX6_give 31 = .ok (.iaload, 1) := by decide +kernel
theorem dX6_give_32 : decode cX6_give 32 = .ok (.iload_n 2, 1) := by decide +kernel
theorem dX6_give_33 : decode cX6_give 33 = .ok (.iadd, 1) := by decide +kernel
theorem dX6_give_34 : decode cX6_give 34 = .ok (.bipush 20, 2) := by decide +kernel
theorem dX6_give_36 : decode cX6_give 36 = .ok (.if_icmp .le 6, 3) := by decide +kernel
theorem dX6_give_39 : decode cX6_give 39 = .ok (.bipush (-3), 2) := by decide +kernel
theorem dX6_give_41 : decode cX6_give 41 = .ok (.ireturn, 1) := by decide +kernel
theorem dX6_give_42 : decode cX6_give 42 = .ok (.aload_n 0, 1) := by decide +kernel
theorem dX6_give_43 : decode cX6_give 43 = .ok (.invokevirtual 74, 3) := by decide +kernel
theorem dX6_give_46 : decode cX6_give 46 = .ok (.aload_n 0, 1) := by decide +kernel
theorem dX6_give_47 : decode cX6_give 47 = .ok (.getfield 7, 3) := by decide +kernel
theorem dX6_give_50 : decode cX6_give 50 = .ok (.iconst 4, 1) := by decide +kernel
theorem dX6_give_51 : decode cX6_give 51 = .ok (.iconst 2, 1) := by decide +kernel
theorem dX6_give_52 : decode cX6_give 52 = .ok (.iload_n 1, 1) := by decide +kernel
theorem dX6_give_53 : decode cX6_give 53 = .ok (.imul, 1) := by decide +kernel
theorem dX6_give_54 : decode cX6_give 54 = .ok (.iadd, 1) := by decide +kernel
theorem dX6_give_55 : decode cX6_give 55 = .ok (.dup2, 1) := by decide +kernel
theorem dX6_give_56 : decode cX6_give 56 = .ok (.iaload, 1) := by decide +kernel
theorem dX6_give_57 : decode cX6_give 57 = .ok (.iload_n 2, 1) := by decide +kernel
theorem dX6_give_58 : decode cX6_give 58 = .ok (.iadd, 1) := by decide +kernel
theorem dX6_give_59 : decode cX6_give 59 = .ok (.iastore, 1) := by decide +kernel
theorem dX6_give_60 : decode cX6_give 60 = .ok (.aload_n 0, 1) := by decide +kernel
theorem dX6_give_61 : decode cX6_give 61 = .ok (.getfield 7, 3) := by decide +kernel
theorem dX6_give_64 : decode cX6_give 64 = .ok (.iconst 4, 1) := by decide +kernel
theorem dX6_give_65 : decode cX6_give 65 = .ok (.iconst 2, 1) := by decide +kernel
theorem dX6_give_66 : decode cX6_give 66 = .ok (.iload_n 1, 1) := by decide +kernel
theorem dX6_give_67 : decode cX6_give 67 = .ok (.imul, 1) := by decide +kernel
theorem dX6_give_68 : decode cX6_give 68 = .ok (.iadd, 1) := by decide +kernel
theorem dX6_give_69 : decode cX6_give 69 = .ok (.iaload, 1) := by decide +kernel
theorem dX6_give_70 : decode cX6_give 70 = .ok (.ireturn, 1) := by decide +kernel
set_option maxRecDepth 20000 in
theorem ggX6_strike_X6_strikeError : GoodIn wsX6_strike wsX6_strikeError := goodIn_r _ [5, 6, 7, 4, 8, 9, 10, 11, 12, 13, 14, 15, 16, 17, 18, 19, 20, 44, 45, 46, 47, 48, 49, 50, 51, 52, 53, 54, 55, 56] (by decide +kernel) (by decide +kernel)
set_option maxRecDepth 20000 in
theorem gX6_strike_X6_strikeError : GoodIn wsX6_strike (wsV RX6 77 RX6 yX6_strikeError wsX6_strikeError) := goodIn_app (goodIn_of _ (by decide +kernel)) ggX6_strike_X6_strikeError
set_option maxRecDepth 20000 in
theorem ggX6_strike_X6_records : GoodIn wsX6_strike wsX6_records := goodIn_r _ [24, 25, 26, 27, 28, 4, 29, 13, 44, 45, 46, 47, 48, 49, 50, 51, 52, 53, 54, 55, 56] (by decide +kernel) (by decide +kernel)
set_option maxRecDepth 20000 in
theorem gX6_strike_X6_records : GoodIn wsX6_strike (wsV RX6 74 RX6 yX6_records wsX6_records) := goodIn_app (goodIn_of _ (by decide +kernel)) ggX6_strike_X6_records
set_option maxRecDepth 20000 in
theorem ggX6_strike_X6_strikes : GoodIn wsX6_strike wsX6_strikes := goodIn_r _ [33, 13, 18, 19, 4, 20, 34, 35, 36, 37, 38, 39, 40, 41, 42, 43, 44, 45, 46, 47, 48, 49, 50, 51, 52, 53, 54, 55, 56] (by decide +kernel) (by decide +kernel)
set_option maxRecDepth 20000 in
theorem gX6_strike_X6_strikes : GoodIn wsX6_strike (wsV RX6 51 RX6 yX6_strikes wsX6_strikes) := goodIn_app (goodIn_of _ (by decide +kernel)) ggX6_strike_X6_strikes
theorem dX6_strike_0 : decode cX6_strike 0 = .ok (.aload_n 0, 1) := by decide +kernel
theorem dX6_strike_1 : decode cX6_strike 1 = .ok (.iload_n 1, 1) := by decide +kernel
theorem dX6_strike_2 : decode cX6_strike 2 = .ok (.iload_n 2, 1) := by decide +kernel
theorem dX6_strike_3 : decode cX6_strike 3 = .ok (.iload_n 3, 1) := by decide +kernel
theorem dX6_strike_4 : decode cX6_strike 4 = .ok (.invokevirtual 77, 3) := by decide +kernel
theorem dX6_strike_7 : decode cX6_strike 7 = .ok (.istore 4, 2) := by decide +kernel
theorem dX6_strike_9 : decode cX6_strike 9 = .ok (.iload 4, 2) := by decide +kernel
theorem dX6_strike_11 : decode cX6_strike 11 = .ok (.ifCond .eq 6, 3) := by decide +kernel
theorem dX6_strike_14 : decode cX6_strike 14 = .ok (.iload 4, 2) := by decide +kernel
theorem dX6_strike_16 : decode cX6_strike 16 = .ok (.ireturn, 1) := by decide +kernel
theorem dX6_strike_17 : decode cX6_strike 17 = .ok (.aload_n 0, 1) := by decide +kernel
theorem dX6_strike_18 : decode cX6_strike 18 = .ok (.invokevirtual 74, 3) := by decide +kernel
theorem dX6_strike_21 : decode cX6_strike 21 = .ok (.aload_n 0, 1) := by decide +kernel
theorem dX6_strike_22 : decode cX6_strike 22 = .ok (.iconst 0, 1) := by decide +kernel
theorem dX6_strike_23 : decode cX6_strike 23 = .ok (.iload_n 1, 1) := by decide +kernel
theorem dX6_strike_24 : decode cX6_strike 24 = .ok (.iload_n 2, 1) := by decide +kernel
theorem dX6_strike_25 : decode cX6_strike 25 = .ok (.iload_n 3, 1) := by decide +kernel
theorem dX6_strike_26 : decode cX6_strike 26 = .ok (.invokevirtual 51, 3) := by decide +kernel
theorem dX6_strike_29 : decode cX6_strike 29 = .ok (.ireturn, 1) := by decide +kernel
set_option maxRecDepth 20000 in
theorem ggX6_mend_X6_mendError : GoodIn wsX6_mend wsX6_mendError := goodIn_r _ [5, 6, 7, 8, 9, 4, 10, 11, 12, 13, 14, 15, 16, 17, 18, 19, 20, 34, 35, 36, 37, 38, 39, 40, 41, 42, 43, 44, 45, 46] (by decide +kernel) (by decide +kernel)
set_option maxRecDepth 20000 in
theorem gX6_mend_X6_mendError : GoodIn wsX6_mend (wsV RX6 81 RX6 yX6_mendError wsX6_mendError) := goodIn_app (goodIn_of _ (by decide +kernel)) ggX6_mend_X6_mendError
set_option maxRecDepth 20000 in
theorem ggX6_mend_X6_records : GoodIn wsX6_mend wsX6_records := goodIn_r _ [24, 25, 26, 27, 28, 4, 29, 6, 34, 35, 36, 37, 38, 39, 40, 41, 42, 43, 44, 45, 46] (by decide +kernel) (by decide +kernel)
set_option maxRecDepth 20000 in
theorem gX6_mend_X6_records : GoodIn wsX6_mend (wsV RX6 74 RX6 yX6_records wsX6_records) := goodIn_app (goodIn_of _ (by decide +kernel)) ggX6_mend_X6_records
set_option maxRecDepth 20000 in
theorem ggX6_mend_X6_mends : GoodIn wsX6_mend wsX6_mends := goodIn_r _ [33, 6, 14, 15, 4, 16, 17, 18, 19, 20, 34, 35, 36, 37, 38, 39, 40, 41, 42, 43, 44, 45, 46] (by decide +kernel) (by decide +kernel)
set_option maxRecDepth 20000 in
theorem gX6_mend_X6_mends : GoodIn wsX6_mend (wsV RX6 84 RX6 yX6_mends wsX6_mends) := goodIn_app (goodIn_of _ (by decide +kernel)) ggX6_mend_X6_mends
theorem dX6_mend_0 : decode cX6_mend 0 = .ok (.aload_n 0, 1) := by decide +kernel
theorem dX6_mend_1 : decode cX6_mend 1 = .ok (.iload_n 1, 1) := by decide +kernel
theorem dX6_mend_2 : decode cX6_mend 2 = .ok (.invokevirtual 81, 3) := by decide +kernel
theorem dX6_mend_5 : decode cX6_mend 5 = .ok (.istore_n 2, 1) := by decide +kernel
theorem dX6_mend_6 : decode cX6_mend 6 = .ok (.iload_n 2, 1) := by decide +kernel
theorem dX6_mend_7 : decode cX6_mend 7 = .ok (.ifCond .eq 5, 3) := by decide +kernel
theorem dX6_mend_10 : decode cX6_mend 10 = .ok (.iload_n 2, 1) := by decide +kernel
theorem dX6_mend_11 : decode cX6_mend 11 = .ok (.ireturn, 1) := by decide +kernel
theorem dX6_mend_12 : decode cX6_mend 12 = .ok (.aload_n 0, 1) := by decide +kernel
theorem dX6_mend_13 : decode cX6_mend 13 = .ok (.invokevirtual 74, 3) := by decide +kernel
theorem dX6_mend_16 : decode cX6_mend 16 = .ok (.aload_n 0, 1) := by decide +kernel
theorem dX6_mend_17 : decode cX6_mend 17 = .ok (.iload_n 1, 1) := by decide +kernel
theorem dX6_mend_18 : decode cX6_mend 18 = .ok (.invokevirtual 84, 3) := by decide +kernel
theorem dX6_mend_21 : decode cX6_mend 21 = .ok (.ireturn, 1) := by decide +kernel
set_option maxRecDepth 20000 in
theorem ggX6_stamp_X6_stampError : GoodIn wsX6_stamp wsX6_stampError := goodIn_r _ [5, 6, 7, 8, 9, 4, 10, 11, 12, 13, 14, 15, 16, 34, 35, 36, 37, 38, 39, 40, 41, 42, 43, 44, 45, 46] (by decide +kernel) (by decide +kernel)
set_option maxRecDepth 20000 in
theorem gX6_stamp_X6_stampError : GoodIn wsX6_stamp (wsV RX6 87 RX6 yX6_stampError wsX6_stampError) := goodIn_app (goodIn_of _ (by decide +kernel)) ggX6_stamp_X6_stampError
set_option maxRecDepth 20000 in
theorem ggX6_stamp_X6_records : GoodIn wsX6_stamp wsX6_records := goodIn_r _ [20, 21, 22, 23, 24, 4, 25, 6, 34, 35, 36, 37, 38, 39, 40, 41, 42, 43, 44, 45, 46] (by decide +kernel) (by decide +kernel)
set_option maxRecDepth 20000 in
theorem gX6_stamp_X6_records : GoodIn wsX6_stamp (wsV RX6 74 RX6 yX6_records wsX6_records) := goodIn_app (goodIn_of _ (by decide +kernel)) ggX6_stamp_X6_records
set_option maxRecDepth 20000 in
theorem ggX6_stamp_X6_stamps : GoodIn wsX6_stamp wsX6_stamps := goodIn_r _ [29, 6, 14, 15, 4, 16, 30, 31, 32, 33, 34, 35, 36, 37, 38, 39, 40, 41, 42, 43, 44, 45, 46] (by decide +kernel) (by decide +kernel)
set_option maxRecDepth 20000 in
theorem gX6_stamp_X6_stamps : GoodIn wsX6_stamp (wsV RX6 90 RX6 yX6_stamps wsX6_stamps) := goodIn_app (goodIn_of _ (by decide +kernel)) ggX6_stamp_X6_stamps
theorem dX6_stamp_0 : decode cX6_stamp 0 = .ok (.aload_n 0, 1) := by decide +kernel
theorem dX6_stamp_1 : decode cX6_stamp 1 = .ok (.iload_n 1, 1) := by decide +kernel
theorem dX6_stamp_2 : decode cX6_stamp 2 = .ok (.invokevirtual 87, 3) := by decide +kernel
theorem dX6_stamp_5 : decode cX6_stamp 5 = .ok (.istore_n 2, 1) := by decide +kernel
theorem dX6_stamp_6 : decode cX6_stamp 6 = .ok (.iload_n 2, 1) := by decide +kernel
theorem dX6_stamp_7 : decode cX6_stamp 7 = .ok (.ifCond .eq 5, 3) := by decide +kernel
theorem dX6_stamp_10 : decode cX6_stamp 10 = .ok (.iload_n 2, 1) := by decide +kernel
theorem dX6_stamp_11 : decode cX6_stamp 11 = .ok (.ireturn, 1) := by decide +kernel
theorem dX6_stamp_12 : decode cX6_stamp 12 = .ok (.aload_n 0, 1) := by decide +kernel
theorem dX6_stamp_13 : decode cX6_stamp 13 = .ok (.invokevirtual 74, 3) := by decide +kernel
theorem dX6_stamp_16 : decode cX6_stamp 16 = .ok (.aload_n 0, 1) := by decide +kernel
theorem dX6_stamp_17 : decode cX6_stamp 17 = .ok (.iload_n 1, 1) := by decide +kernel
theorem dX6_stamp_18 : decode cX6_stamp 18 = .ok (.invokevirtual 90, 3) := by decide +kernel
theorem dX6_stamp_21 : decode cX6_stamp 21 = .ok (.ireturn, 1) := by decide +kernel
set_option maxRecDepth 20000 in
theorem ggX6_boast_X6_isConker : GoodIn wsX6_boast wsX6_isConker := goodIn_r _ [6, 1, 7, 8, 5, 9, 22, 23, 24, 25, 26, 27, 28, 29, 30, 31, 32, 33, 34] (by decide +kernel) (by decide +kernel)
set_option maxRecDepth 20000 in
theorem gX6_boast_X6_isConker : GoodIn wsX6_boast (wsV RX6 59 RX6 yX6_isConker wsX6_isConker) := goodIn_app (goodIn_of _ (by decide +kernel)) ggX6_boast_X6_isConker
set_option maxRecDepth 20000 in
theorem ggX6_boast_X6_in : GoodIn wsX6_boast wsX6_in := goodIn_r _ [9] (by decide +kernel) (by decide +kernel)
set_option maxRecDepth 20000 in
theorem gX6_boast_X6_in : GoodIn wsX6_boast (va_wsS RX6 55 yX6_in wsX6_in) := goodIn_app (goodIn_of _ (by decide +kernel)) ggX6_boast_X6_in
set_option maxRecDepth 20000 in
theorem ggX6_boast_X6_at : GoodIn wsX6_boast wsX6_at := goodIn_r _ [12] (by decide +kernel) (by decide +kernel)
set_option maxRecDepth 20000 in
theorem gX6_boast_X6_at : GoodIn wsX6_boast (va_wsS RX6 30 yX6_at wsX6_at) := goodIn_app (goodIn_of _ (by decide +kernel)) ggX6_boast_X6_at
set_option maxRecDepth 20000 in
theorem ggX6_boast_X6_records : GoodIn wsX6_boast wsX6_records := goodIn_r _ [16, 17, 18, 19, 20, 5, 21, 1, 22, 23, 24, 25, 26, 27, 28, 29, 30, 31, 32, 33, 34] (by decide +kernel) (by decide +kernel)
set_option maxRecDepth 20000 in
theorem gX6_boast_X6_records : GoodIn wsX6_boast (wsV RX6 74 RX6 yX6_records wsX6_records) := goodIn_app (goodIn_of _ (by decide +kernel)) ggX6_boast_X6_records
theorem dX6_boast_0 : decode cX6_boast 0 = .ok (.aload_n 0, 1) := by decide +kernel
theorem dX6_boast_1 : decode cX6_boast 1 = .ok (.iload_n 1, 1) := by decide +kernel
theorem dX6_boast_2 : decode cX6_boast 2 = .ok (.invokevirtual 59, 3) := by decide +kernel
theorem dX6_boast_5 : decode cX6_boast 5 = .ok (.ifCond .ne 5, 3) := by decide +kernel
theorem dX6_boast_8 : decode cX6_boast 8 = .ok (.iconst (-1), 1) := by decide +kernel
theorem dX6_boast_9 : decode cX6_boast 9 = .ok (.ireturn, 1) := by decide +kernel
theorem dX6_boast_10 : decode cX6_boast 10 = .ok (.iload_n 2, 1) := by decide +kernel
theorem dX6_boast_11 : decode cX6_boast 11 = .ok (.iconst 0, 1) := by decide +kernel
theorem dX6_boast_12 : decode cX6_boast 12 = .ok (.bipush 99, 2) := by decide +kernel
theorem dX6_boast_14 : decode cX6_boast 14 = .ok (.invokestatic 55, 3) := by decide +kernel
theorem dX6_boast_17 : decode cX6_boast 17 = .ok (.ifCond .ne 6, 3) := by decide +kernel
theorem dX6_boast_20 : decode cX6_boast 20 = .ok (.bipush (-2), 2) := by decide +kernel
theorem dX6_boast_22 : decode cX6_boast 22 = .ok (.ireturn, 1) := by decide +kernel
theorem dX6_boast_23 : decode cX6_boast 23 = .ok (.iconst 0, 1) := by decide +kernel
theorem dX6_boast_24 : decode cX6_boast 24 = .ok (.iload_n 1, 1) := by decide +kernel
theorem dX6_boast_25 : decode cX6_boast 25 = .ok (.invokestatic 30, 3) := by decide +kernel
theorem dX6_boast_28 : decode cX6_boast 28 = .ok (.istore_n 3, 1) := by decide +kernel
theorem dX6_boast_29 : decode cX6_boast 29 = .ok (.aload_n 0, 1) := by decide +kernel
theorem dX6_boast_30 : decode cX6_boast 30 = .ok (.getfield 7, 3) := by decide +kernel
theorem dX6_boast_33 : decode cX6_boast 33 = .ok (.iload_n 3, 1) := by decide +kernel
theorem dX6_boast_34 : decode cX6_boast 34 = .ok (.bipush 6, 2) := by decide +kernel
theorem dX6_boast_36 : decode cX6_boast 36 = .ok (.iadd, 1) := by decide +kernel
theorem dX6_boast_37 : decode cX6_boast 37 = .ok (.iaload, 1) := by decide +kernel
theorem dX6_boast_38 : decode cX6_boast 38 = .ok (.iconst 2, 1) := by decide +kernel
theorem dX6_boast_39 : decode cX6_boast 39 = .ok (.if_icmp .ne 6, 3) := by decide +kernel
theorem dX6_boast_42 : decode cX6_boast 42 = .ok (.bipush (-4), 2) := by decide +kernel
theorem dX6_boast_44 : decode cX6_boast 44 = .ok (.ireturn, 1) := by decide +kernel
theorem dX6_boast_45 : decode cX6_boast 45 = .ok (.aload_n 0, 1) := by decide +kernel
theorem dX6_boast_46 : decode cX6_boast 46 = .ok (.invokevirtual 74, 3) := by decide +kernel
theorem dX6_boast_49 : decode cX6_boast 49 = .ok (.aload_n 0, 1) := by decide +kernel
theorem dX6_boast_50 : decode cX6_boast 50 = .ok (.getfield 7, 3) := by decide +kernel
theorem dX6_boast_53 : decode cX6_boast 53 = .ok (.iload_n 3, 1) := by decide +kernel
theorem dX6_boast_54 : decode cX6_boast 54 = .ok (.iconst 5, 1) := by decide +kernel
theorem dX6_boast_55 : decode cX6_boast 55 = .ok (.iadd, 1) := by decide +kernel
theorem dX6_boast_56 : decode cX6_boast 56 = .ok (.iaload, 1) := by decide +kernel
theorem dX6_boast_57 : decode cX6_boast 57 = .ok (.istore 4, 2) := by decide +kernel
theorem dX6_boast_59 : decode cX6_boast 59 = .ok (.aload_n 0, 1) := by decide +kernel
theorem dX6_boast_60 : decode cX6_boast 60 = .ok (.getfield 7, 3) := by decide +kernel
theorem dX6_boast_63 : decode cX6_boast 63 = .ok (.iload_n 3, 1) := by decide +kernel
theorem dX6_boast_64 : decode cX6_boast 64 = .ok (.iconst 5, 1) := by decide +kernel
theorem dX6_boast_65 : decode cX6_boast 65 = .ok (.iadd, 1) := by decide +kernel
theorem dX6_boast_66 : decode cX6_boast 66 = .ok (.iload_n 2, 1) := by decide +kernel
theorem dX6_boast_67 : decode cX6_boast 67 = .ok (.iastore, 1) := by decide +kernel
theorem dX6_boast_68 : decode cX6_boast 68 = .ok (.iload 4, 2) := by decide +kernel
theorem dX6_boast_70 : decode cX6_boast 70 = .ok (.ireturn, 1) := by decide +kernel
set_option maxRecDepth 20000 in
theorem ggX6_doubt_X6_isPlayer : GoodIn wsX6_doubt wsX6_isPlayer := goodIn_r _ [5, 6, 7, 4, 8] (by decide +kernel) (by decide +kernel)
set_option maxRecDepth 20000 in
theorem gX6_doubt_X6_isPlayer : GoodIn wsX6_doubt (va_wsS RX6 71 yX6_isPlayer wsX6_isPlayer) := goodIn_app (goodIn_of _ (by decide +kernel)) ggX6_doubt_X6_isPlayer
set_option maxRecDepth 20000 in
theorem ggX6_doubt_X6_isConker : GoodIn wsX6_doubt wsX6_isConker := goodIn_r _ [12, 1, 6, 7, 4, 8, 25, 26, 27, 28, 29, 30, 31, 32, 33, 34, 35, 36, 37] (by decide +kernel) (by decide +kernel)
set_option maxRecDepth 20000 in
theorem gX6_doubt_X6_isConker : GoodIn wsX6_doubt (wsV RX6 59 RX6 yX6_isConker wsX6_isConker) := goodIn_app (goodIn_of _ (by decide +kernel)) ggX6_doubt_X6_isConker
set_option maxRecDepth 20000 in
theorem ggX6_doubt_X6_at : GoodIn wsX6_doubt wsX6_at := goodIn_r _ [15] (by decide +kernel) (by decide +kernel)
set_option maxRecDepth 20000 in
theorem gX6_doubt_X6_at : GoodIn wsX6_doubt (va_wsS RX6 30 yX6_at wsX6_at) := goodIn_app (goodIn_of _ (by decide +kernel)) ggX6_doubt_X6_at
set_option maxRecDepth 20000 in
theorem ggX6_doubt_X6_records : GoodIn wsX6_doubt wsX6_records := goodIn_r _ [19, 20, 21, 22, 23, 4, 24, 1, 25, 26, 27, 28, 29, 30, 31, 32, 33, 34, 35, 36, 37] (by decide +kernel) (by decide +kernel)
set_option maxRecDepth 20000 in
theorem gX6_doubt_X6_records : GoodIn wsX6_doubt (wsV RX6 74 RX6 yX6_records wsX6_records) := goodIn_app (goodIn_of _ (by decide +kernel)) ggX6_doubt_X6_records
theorem dX6_doubt_0 : decode cX6_doubt 0 = .ok (.iload_n 1, 1) := by decide +kernel
theorem dX6_doubt_1 : decode cX6_doubt 1 = .ok (.invokestatic 71, 3) := by decide +kernel
theorem dX6_doubt_4 : decode cX6_doubt 4 = .ok (.ifCond .eq 11, 3) := by decide +kernel
theorem dX6_doubt_7 : decode cX6_doubt 7 = .ok (.aload_n 0, 1) := by decide +kernel
theorem dX6_doubt_8 : decode cX6_doubt 8 = .ok (.iload_n 2, 1) := by decide +kernel
theorem dX6_doubt_9 : decode cX6_doubt 9 = .ok (.invokevirtual 59, 3) := by decide +kernel
theorem dX6_doubt_12 : decode cX6_doubt 12 = .ok (.ifCond .ne 5, 3) := by decide +kernel
theorem dX6_doubt_15 : decode cX6_doubt 15 = .ok (.iconst (-1), 1) := by decide +kernel
theorem dX6_doubt_16 : decode cX6_doubt 16 = .ok (.ireturn, 1) := by decide +kernel
theorem dX6_doubt_17 : decode cX6_doubt 17 = .ok (.iconst 0, 1) := by decide +kernel
theorem dX6_doubt_18 : decode cX6_doubt 18 = .ok (.iload_n 2, 1) := by decide +kernel
theorem dX6_doubt_19 : decode cX6_doubt 19 = .ok (.invokestatic 30, 3) := by decide +kernel
theorem dX6_doubt_22 : decode cX6_doubt 22 = .ok (.istore_n 3, 1) := by decide +kernel
theorem dX6_doubt_23 : decode cX6_doubt 23 = .ok (.aload_n 0, 1) := by decide +kernel
theorem dX6_doubt_24 : decode cX6_doubt 24 = .ok (.getfield 7, 3) := by decide +kernel
theorem dX6_doubt_27 : decode cX6_doubt 27 = .ok (.iload_n 3, 1) := by decide +kernel
theorem dX6_doubt_28 : decode cX6_doubt 28 = .ok (.iaload, 1) := by decide +kernel
theorem dX6_doubt_29 : decode cX6_doubt 29 = .ok (.iload_n 1, 1) := by decide +kernel
theorem dX6_doubt_30 : decode cX6_doubt 30 = .ok (.if_icmp .ne 6, 3) := by decide +kernel
theorem dX6_doubt_33 : decode cX6_doubt 33 = .ok (.bipush (-2), 2) := by decide +kernel
theorem dX6_doubt_35 : decode cX6_doubt 35 = .ok (.ireturn, 1) := by decide +kernel
theorem dX6_doubt_36 : decode cX6_doubt 36 = .ok (.aload_n 0, 1) := by decide +kernel
theorem dX6_doubt_37 : decode cX6_doubt 37 = .ok (.getfield 7, 3) := by decide +kernel
theorem dX6_doubt_40 : decode cX6_doubt 40 = .ok (.iload_n 3, 1) := by decide +kernel
theorem dX6_doubt_41 : decode cX6_doubt 41 = .ok (.iconst 5, 1) := by decide +kernel
theorem dX6_doubt_42 : decode cX6_doubt 42 = .ok (.iadd, 1) := by decide +kernel
theorem dX6_doubt_43 : decode cX6_doubt 43 = .ok (.iaload, 1) := by decide +kernel
theorem dX6_doubt_44 : decode cX6_doubt 44 = .ok (.bipush (-5), 2) := by decide +kernel
theorem dX6_doubt_46 : decode cX6_doubt 46 = .ok (.if_icmp .ne 6, 3) := by decide +kernel
theorem dX6_doubt_49 : decode cX6_doubt 49 = .ok (.bipush (-4), 2) := by decide +kernel
theorem dX6_doubt_51 : decode cX6_doubt 51 = .ok (.ireturn, 1) := by decide +kernel
theorem dX6_doubt_52 : decode cX6_doubt 52 = .ok (.aload_n 0, 1) := by decide +kernel
theorem dX6_doubt_53 : decode cX6_doubt 53 = .ok (.invokevirtual 74, 3) := by decide +kernel
theorem dX6_doubt_56 : decode cX6_doubt 56 = .ok (.aload_n 0, 1) := by decide +kernel
theorem dX6_doubt_57 : decode cX6_doubt 57 = .ok (.getfield 7, 3) := by decide +kernel
theorem dX6_doubt_60 : decode cX6_doubt 60 = .ok (.iload_n 3, 1) := by decide +kernel
theorem dX6_doubt_61 : decode cX6_doubt 61 = .ok (.iconst 5, 1) := by decide +kernel
theorem dX6_doubt_62 : decode cX6_doubt 62 = .ok (.iadd, 1) := by decide +kernel
theorem dX6_doubt_63 : decode cX6_doubt 63 = .ok (.iaload, 1) := by decide +kernel
theorem dX6_doubt_64 : decode cX6_doubt 64 = .ok (.aload_n 0, 1) := by decide +kernel
theorem dX6_doubt_65 : decode cX6_doubt 65 = .ok (.getfield 7, 3) := by decide +kernel
theorem dX6_doubt_68 : decode cX6_doubt 68 = .ok (.iload_n 3, 1) := by decide +kernel
theorem dX6_doubt_69 : decode cX6_doubt 69 = .ok (.iconst 4, 1) := by decide +kernel
theorem dX6_doubt_70 : decode cX6_doubt 70 = .ok (.iadd, 1) := by decide +kernel
theorem dX6_doubt_71 : decode cX6_doubt 71 = .ok (.iaload, 1) := by decide +kernel
theorem dX6_doubt_72 : decode cX6_doubt 72 = .ok (.if_icmp .le 12, 3) := by decide +kernel
theorem dX6_doubt_75 : decode cX6_doubt 75 = .ok (.aload_n 0, 1) := by decide +kernel
theorem dX6_doubt_76 : decode cX6_doubt 76 = .ok (.getfield 7, 3) := by decide +kernel
theorem dX6_doubt_79 : decode cX6_doubt 79 = .ok (.iload_n 3, 1) := by decide +kernel
theorem dX6_doubt_80 : decode cX6_doubt 80 = .ok (.iaload, 1) := by decide +kernel
theorem dX6_doubt_81 : decode cX6_doubt 81 = .ok (.goto 4, 3) := by decide +kernel
theorem dX6_doubt_84 : decode cX6_doubt 84 = .ok (.iload_n 1, 1) := by decide +kernel
theorem dX6_doubt_85 : decode cX6_doubt 85 = .ok (.istore 4, 2) := by decide +kernel
theorem dX6_doubt_87 : decode cX6_doubt 87 = .ok (.aload_n 0, 1) := by decide +kernel
theorem dX6_doubt_88 : decode cX6_doubt 88 = .ok (.getfield 7, 3) := by decide +kernel
theorem dX6_doubt_91 : decode cX6_doubt 91 = .ok (.iconst 4, 1) := by decide +kernel
theorem dX6_doubt_92 : decode cX6_doubt 92 = .ok (.iconst 2, 1) := by decide +kernel
theorem dX6_doubt_93 : decode cX6_doubt 93 = .ok (.iload 4, 2) := by decide +kernel
theorem dX6_doubt_95 : decode cX6_doubt 95 = .ok (.imul, 1) := by decide +kernel
theorem dX6_doubt_96 : decode cX6_doubt 96 = .ok (.iadd, 1) := by decide +kernel
theorem dX6_doubt_97 : decode cX6_doubt 97 = .ok (.iconst 1, 1) := by decide +kernel
theorem dX6_doubt_98 : decode cX6_doubt 98 = .ok (.iadd, 1) := by decide +kernel
theorem dX6_doubt_99 : decode cX6_doubt 99 = .ok (.dup2, 1) := by decide +kernel
theorem dX6_doubt_100 : decode cX6_doubt 100 = .ok (.iaload, 1) := by decide +kernel
theorem dX6_doubt_101 : decode cX6_doubt 101 = .ok (.iconst 1, 1) := by decide +kernel
theorem dX6_doubt_102 : decode cX6_doubt 102 = .ok (.iadd, 1) := by decide +kernel
theorem dX6_doubt_103 : decode cX6_doubt 103 = .ok (.iastore, 1) := by decide +kernel
theorem dX6_doubt_104 : decode cX6_doubt 104 = .ok (.aload_n 0, 1) := by decide +kernel
theorem dX6_doubt_105 : decode cX6_doubt 105 = .ok (.getfield 7, 3) := by decide +kernel
theorem dX6_doubt_108 : decode cX6_doubt 108 = .ok (.iload_n 3, 1) := by decide +kernel
theorem dX6_doubt_109 : decode cX6_doubt 109 = .ok (.iconst 5, 1) := by decide +kernel
theorem dX6_doubt_110 : decode cX6_doubt 110 = .ok (.iadd, 1) := by decide +kernel
theorem dX6_doubt_111 : decode cX6_doubt 111 = .ok (.bipush (-5), 2) := by decide +kernel
theorem dX6_doubt_113 : decode cX6_doubt 113 = .ok (.iastore, 1) := by decide +kernel
theorem dX6_doubt_114 : decode cX6_doubt 114 = .ok (.iload 4, 2) := by decide +kernel
theorem dX6_doubt_116 : decode cX6_doubt 116 = .ok (.ireturn, 1) := by decide +kernel
set_option maxRecDepth 20000 in
theorem ggX6_boutError_X6_in : GoodIn wsX6_boutError wsX6_in := goodIn_r _ [5] (by decide +kernel) (by decide +kernel)
set_option maxRecDepth 20000 in
theorem gX6_boutError_X6_in : GoodIn wsX6_boutError (va_wsS RX6 55 yX6_in wsX6_in) := goodIn_app (goodIn_of _ (by decide +kernel)) ggX6_boutError_X6_in
set_option maxRecDepth 20000 in
theorem ggX6_boutError_X6_pairError : GoodIn wsX6_boutError wsX6_pairError := goodIn_r _ [9, 10, 11, 12, 13, 4, 14, 2, 3, 5, 15, 16, 17, 18, 19, 20, 21, 22, 23, 24, 25, 26, 27, 28, 29, 30] (by decide +kernel) (by decide +kernel)
set_option maxRecDepth 20000 in
theorem gX6_boutError_X6_pairError : GoodIn wsX6_boutError (wsV RX6 63 RX6 yX6_pairError wsX6_pairError) := goodIn_app (goodIn_of _ (by decide +kernel)) ggX6_boutError_X6_pairError
theorem dX6_boutError_0 : decode cX6_boutError 0 = .ok (.aload_n 0, 1) := by decide +kernel
theorem dX6_boutError_1 : decode cX6_boutError 1 = .ok (.iload_n 1, 1) := by decide +kernel
theorem dX6_boutError_2 : decode cX6_boutError 2 = .ok (.iload_n 2, 1) := by decide +kernel
theorem dX6_boutError_3 : decode cX6_boutError 3 = .ok (.iload_n 3, 1) := by decide +kernel
theorem dX6_boutError_4 : decode cX6_boutError 4 = .ok (.iconst 0, 1) := by decide +kernel
theorem dX6_boutError_5 : decode cX6_boutError 5 = .ok (.ldc 93, 2) := by decide +kernel
theorem dX6_boutError_7 : decode cX6_boutError 7 = .ok (.invokestatic 55, 3) := by decide +kernel
theorem dX6_boutError_10 : decode cX6_boutError 10 = .ok (.invokevirtual 63, 3) := by decide +kernel
theorem dX6_boutError_13 : decode cX6_boutError 13 = .ok (.ireturn, 1) := by decide +kernel
set_option maxRecDepth 20000 in
theorem ggX6_bout_X6_boutError : GoodIn wsX6_bout wsX6_boutError := goodIn_r _ [6, 7, 8, 9, 5, 10, 11, 12, 13, 14, 15, 16, 17, 18, 19, 20, 21, 22, 55, 56, 57, 58, 59, 60, 61, 62, 63, 64, 65, 66, 67] (by decide +kernel) (by decide +kernel)
set_option maxRecDepth 20000 in
theorem gX6_bout_X6_boutError : GoodIn wsX6_bout (wsV RX6 94 RX6 yX6_boutError wsX6_boutError) := goodIn_app (goodIn_of _ (by decide +kernel)) ggX6_bout_X6_boutError
set_option maxRecDepth 20000 in
theorem ggX6_bout_X6_records : GoodIn wsX6_bout wsX6_records := goodIn_r _ [26, 27, 28, 29, 30, 5, 31, 15, 55, 56, 57, 58, 59, 60, 61, 62, 63, 64, 65, 66, 67] (by decide +kernel) (by decide +kernel)
set_option maxRecDepth 20000 in
theorem gX6_bout_X6_records : GoodIn wsX6_bout (wsV RX6 74 RX6 yX6_records wsX6_records) := goodIn_app (goodIn_of _ (by decide +kernel)) ggX6_bout_X6_records
set_option maxRecDepth 20000 in
theorem ggX6_bout_X6_fights : GoodIn wsX6_bout wsX6_fights := goodIn_r _ [35, 15, 1, 36, 37, 5, 38, 20, 21, 22, 39, 40, 41, 42, 43, 44, 45, 46, 47, 48, 49, 50, 51, 52, 53, 54, 55, 56, 57, 58, 59, 60, 61, 62, 63, 64, 65, 66, 67] (by decide +kernel) (by decide +kernel)
set_option maxRecDepth 20000 in
theorem gX6_bout_X6_fights : GoodIn wsX6_bout (wsV RX6 97 RX6 yX6_fights wsX6_fights) := goodIn_app (goodIn_of _ (by decide +kernel)) ggX6_bout_X6_fights
theorem dX6_bout_0 : decode cX6_bout 0 = .ok (.aload_n 0, 1) := by decide +kernel
theorem dX6_bout_1 : decode cX6_bout 1 = .ok (.iload_n 1, 1) := by decide +kernel
theorem dX6_bout_2 : decode cX6_bout 2 = .ok (.iload_n 2, 1) := by decide +kernel
theorem dX6_bout_3 : decode cX6_bout 3 = .ok (.iload_n 3, 1) := by decide +kernel
theorem dX6_bout_4 : decode cX6_bout 4 = .ok (.invokevirtual 94, 3) := by decide +kernel
theorem dX6_bout_7 : decode cX6_bout 7 = .ok (.istore 4, 2) := by decide +kernel
theorem dX6_bout_9 : decode cX6_bout 9 = .ok (.iload 4, 2) := by decide +kernel
theorem dX6_bout_11 : decode cX6_bout 11 = .ok (.ifCond .eq 6, 3) := by decide +kernel
theorem dX6_bout_14 : decode cX6_bout 14 = .ok (.iload 4, 2) := by decide +kernel
theorem dX6_bout_16 : decode cX6_bout 16 = .ok (.ireturn, 1) := by decide +kernel
theorem dX6_bout_17 : decode cX6_bout 17 = .ok (.aload_n 0, 1) := by decide +kernel
theorem dX6_bout_18 : decode cX6_bout 18 = .ok (.invokevirtual 74, 3) := by decide +kernel
theorem dX6_bout_21 : decode cX6_bout 21 = .ok (.aload_n 0, 1) := by decide +kernel
theorem dX6_bout_22 : decode cX6_bout 22 = .ok (.iload_n 3, 1) := by decide +kernel
theorem dX6_bout_23 : decode cX6_bout 23 = .ok (.putfield 44, 3) := by decide +kernel
theorem dX6_bout_26 : decode cX6_bout 26 = .ok (.aload_n 0, 1) := by decide +kernel
theorem dX6_bout_27 : decode cX6_bout 27 = .ok (.iconst 0, 1) := by decide +kernel
theorem dX6_bout_28 : decode cX6_bout 28 = .ok (.iload_n 1, 1) := by decide +kernel
theorem dX6_bout_29 : decode cX6_bout 29 = .ok (.iload_n 2, 1) := by decide +kernel
theorem dX6_bout_30 : decode cX6_bout 30 = .ok (.invokevirtual 97, 3) := by decide +kernel
theorem dX6_bout_33 : decode cX6_bout 33 = .ok (.ireturn, 1) := by decide +kernel
set_option maxRecDepth 20000 in
theorem ggX6_best_X6_at : GoodIn wsX6_best wsX6_at := goodIn_r _ [5] (by decide +kernel) (by decide +kernel)
set_option maxRecDepth 20000 in
theorem gX6_best_X6_at : GoodIn wsX6_best (va_wsS RX6 30 yX6_at wsX6_at) := goodIn_app (goodIn_of _ (by decide +kernel)) ggX6_best_X6_at
theorem dX6_best_0 : decode cX6_best 0 = .ok (.bipush (-5), 2) := by decide +kernel
theorem dX6_best_2 : decode cX6_best 2 = .ok (.istore_n 2, 1) := by decide +kernel
theorem dX6_best_3 : decode cX6_best 3 = .ok (.iconst 0, 1) := by decide +kernel
theorem dX6_best_4 : decode cX6_best 4 = .ok (.istore_n 3, 1) := by decide +kernel
theorem dX6_best_5 : decode cX6_best 5 = .ok (.iload_n 3, 1) := by decide +kernel
theorem dX6_best_6 : decode cX6_best 6 = .ok (.aload_n 0, 1) := by decide +kernel
theorem dX6_best_7 : decode cX6_best 7 = .ok (.getfield 7, 3) := by decide +kernel
theorem dX6_best_10 : decode cX6_best 10 = .ok (.iconst 0, 1) := by decide +kernel
theorem dX6_best_11 : decode cX6_best 11 = .ok (.iaload, 1) := by decide +kernel
theorem dX6_best_12 : decode cX6_best 12 = .ok (.if_icmp .ge 88, 3) := by decide +kernel
theorem dX6_best_15 : decode cX6_best 15 = .ok (.iconst 0, 1) := by decide +kernel
theorem dX6_best_16 : decode cX6_best 16 = .ok (.iload_n 3, 1) := by decide +kernel
theorem dX6_best_17 : decode cX6_best 17 = .ok (.invokestatic 30, 3) := by decide +kernel
theorem dX6_best_20 : decode cX6_best 20 = .ok (.istore 4, 2) := by decide +kernel
theorem dX6_best_22 : decode cX6_best 22 = .ok (.aload_n 0, 1) := by decide +kernel
theorem dX6_best_23 : decode cX6_best 23 = .ok (.getfield 7, 3) := by decide +kernel
theorem dX6_best_26 : decode cX6_best 26 = .ok (.iload 4, 2) := by decide +kernel
theorem dX6_best_28 : decode cX6_best 28 = .ok (.iaload, 1) := by decide +kernel
theorem dX6_best_29 : decode cX6_best 29 = .ok (.iload_n 1, 1) := by decide +kernel
theorem dX6_best_30 : decode cX6_best 30 = .ok (.if_icmp .ne 20, 3) := by decide +kernel
theorem dX6_best_33 : decode cX6_best 33 = .ok (.aload_n 0, 1) := by decide +kernel
theorem dX6_best_34 : decode cX6_best 34 = .ok (.getfield 7, 3) := by decide +kernel
theorem dX6_best_37 : decode cX6_best 37 = .ok (.iload 4, 2) := by decide +kernel
theorem dX6_best_39 : decode cX6_best 39 = .ok (.bipush 6, 2) := by decide +kernel
theorem dX6_best_41 : decode cX6_best 41 = .ok (.iadd, 1) := by decide +kernel
theorem dX6_best_42 : decode cX6_best 42 = .ok (.iaload, 1) := by decide +kernel
theorem dX6_best_43 : decode cX6_best 43 = .ok (.ifCond .ne 7, 3) := by decide +kernel
theorem dX6_best_46 : decode cX6_best 46 = .ok (.iconst 1, 1) := by decide +kernel
theorem dX6_best_47 : decode cX6_best 47 = .ok (.goto 4, 3) := by decide +kernel
theorem dX6_best_50 : decode cX6_best 50 = .ok (.iconst 0, 1) := by decide +kernel
theorem dX6_best_51 : decode cX6_best 51 = .ok (.istore 5, 2) := by decide +kernel
theorem dX6_best_53 : decode cX6_best 53 = .ok (.iload 5, 2) := by decide +kernel
theorem dX6_best_55 : decode cX6_best 55 = .ok (.ifCond .eq 37, 3) := by decide +kernel
theorem dX6_best_58 : decode cX6_best 58 = .ok (.iload_n 2, 1) := by decide +kernel
theorem dX6_best_59 : decode cX6_best 59 = .ok (.bipush (-5), 2) := by decide +kernel
theorem dX6_best_61 : decode cX6_best 61 = .ok (.if_icmp .eq 27, 3) := by decide +kernel
theorem dX6_best_64 : decode cX6_best 64 = .ok (.aload_n 0, 1) := by decide +kernel
theorem dX6_best_65 : decode cX6_best 65 = .ok (.getfield 7, 3) := by decide +kernel
theorem dX6_best_68 : decode cX6_best 68 = .ok (.iload 4, 2) := by decide +kernel
theorem dX6_best_70 : decode cX6_best 70 = .ok (.iconst 4, 1) := by decide +kernel
theorem dX6_best_71 : decode cX6_best 71 = .ok (.iadd, 1) := by decide +kernel
theorem dX6_best_72 : decode cX6_best 72 = .ok (.iaload, 1) := by decide +kernel
theorem dX6_best_73 : decode cX6_best 73 = .ok (.aload_n 0, 1) := by decide +kernel
theorem dX6_best_74 : decode cX6_best 74 = .ok (.getfield 7, 3) := by decide +kernel
theorem dX6_best_77 : decode cX6_best 77 = .ok (.iconst 0, 1) := by decide +kernel
theorem dX6_best_78 : decode cX6_best 78 = .ok (.iload_n 2, 1) := by decide +kernel
theorem dX6_best_79 : decode cX6_best 79 = .ok (.invokestatic 30, 3) := by decide +kernel
theorem dX6_best_82 : decode cX6_best 82 = .ok (.iconst 4, 1) := by decide +kernel
theorem dX6_best_83 : decode cX6_best 83 = .ok (.iadd, 1) := by decide +kernel
theorem dX6_best_84 : decode cX6_best 84 = .ok (.iaload, 1) := by decide +kernel
theorem dX6_best_85 : decode cX6_best 85 = .ok (.if_icmp .le 7, 3) := by decide +kernel
theorem dX6_best_88 : decode cX6_best 88 = .ok (.iload_n 3, 1) := by decide +kernel
theorem dX6_best_89 : decode cX6_best 89 = .ok (.goto 4, 3) := by decide +kernel
theorem dX6_best_92 : decode cX6_best 92 = .ok (.iload_n 2, 1) := by decide +kernel
theorem dX6_best_93 : decode cX6_best 93 = .ok (.istore_n 2, 1) := by decide +kernel
theorem dX6_best_94 : decode cX6_best 94 = .ok (.iinc 3 1, 3) := by decide +kernel
theorem dX6_best_97 : decode cX6_best 97 = .ok (.goto (-92), 3) := by decide +kernel
theorem dX6_best_100 : decode cX6_best 100 = .ok (.iload_n 2, 1) := by decide +kernel
theorem dX6_best_101 : decode cX6_best 101 = .ok (.ireturn, 1) := by decide +kernel
set_option maxRecDepth 20000 in
theorem ggX6_lines_X6_best : GoodIn wsX6_lines wsX6_best := goodIn_r _ [8, 2, 9, 10, 7, 11, 12, 13, 14, 15, 16, 17, 18, 19, 20, 21, 22, 23, 24] (by decide +kernel) (by decide +kernel)
set_option maxRecDepth 20000 in
theorem gX6_lines_X6_best : GoodIn wsX6_lines (wsV RX6 100 RX6 yX6_best wsX6_best) := goodIn_app (goodIn_of _ (by decide +kernel)) ggX6_lines_X6_best
theorem dX6_lines_0 : decode cX6_lines 0 = .ok (.iconst 0, 1) := by decide +kernel
theorem dX6_lines_1 : decode cX6_lines 1 = .ok (.istore_n 1, 1) := by decide +kernel
theorem dX6_lines_2 : decode cX6_lines 2 = .ok (.iconst 0, 1) := by decide +kernel
theorem dX6_lines_3 : decode cX6_lines 3 = .ok (.istore_n 2, 1) := by decide +kernel
theorem dX6_lines_4 : decode cX6_lines 4 = .ok (.iload_n 2, 1) := by decide +kernel
theorem dX6_lines_5 : decode cX6_lines 5 = .ok (.bipush 6, 2) := by decide +kernel
theorem dX6_lines_7 : decode cX6_lines 7 = .ok (.if_icmp .ge 101, 3) := by decide +kernel
theorem dX6_lines_10 : decode cX6_lines 10 = .ok (.aload_n 0, 1) := by decide +kernel
theorem dX6_lines_11 : decode cX6_lines 11 = .ok (.getfield 19, 3) := by decide +kernel
theorem dX6_lines_14 : decode cX6_lines 14 = .ok (.iload_n 2, 1) := by decide +kernel
theorem dX6_lines_15 : decode cX6_lines 15 = .ok (.aload_n 0, 1) := by decide +kernel
theorem dX6_lines_16 : decode cX6_lines 16 = .ok (.iload_n 2, 1) := by decide +kernel
theorem dX6_lines_17 : decode cX6_lines 17 = .ok (.invokevirtual 100, 3) := by decide +kernel
theorem dX6_lines_20 : decode cX6_lines 20 = .ok (.iastore, 1) := by decide +kernel
theorem dX6_lines_21 : decode cX6_lines 21 = .ok (.aload_n 0, 1) := by decide +kernel
theorem dX6_lines_22 : decode cX6_lines 22 = .ok (.getfield 19, 3) := by decide +kernel
theorem dX6_lines_25 : decode cX6_lines 25 = .ok (.iload_n 2, 1) := by decide +kernel
theorem dX6_lines_26 : decode cX6_lines 26 = .ok (.iaload, 1) := by decide +kernel
theorem dX6_lines_27 : decode cX6_lines 27 = .ok (.bipush (-5), 2) := by decide +kernel
theorem dX6_lines_29 : decode cX6_lines 29 = .ok (.if_icmp .eq 73, 3) := by decide +kernel
theorem dX6_lines_32 : decode cX6_lines 32 = .ok (.iload_n 1, 1) := by decide +kernel
theorem dX6_lines_33 : decode cX6_lines 33 = .ok (.istore_n 3, 1) := by decide +kernel
theorem dX6_lines_34 : decode cX6_lines 34 = .ok (.iload_n 3, 1) := by decide +kernel
theorem dX6_lines_35 : decode cX6_lines 35 = .ok (.ifCond .le 57, 3) := by decide +kernel
theorem dX6_lines_38 : decode cX6_lines 38 = .ok (.aload_n 0, 1) := by decide +kernel
theorem dX6_lines_39 : decode cX6_lines 39 = .ok (.getfield 7, 3) := by decide +kernel
theorem dX6_lines_42 : decode cX6_lines 42 = .ok (.iconst 4, 1) := by decide +kernel
theorem dX6_lines_43 : decode cX6_lines 43 = .ok (.iconst 2, 1) := by decide +kernel
theorem dX6_lines_44 : decode cX6_lines 44 = .ok (.aload_n 0, 1) := by decide +kernel
theorem dX6_lines_45 : decode cX6_lines 45 = .ok (.getfield 16, 3) := by decide +kernel
theorem dX6_lines_48 : decode cX6_lines 48 = .ok (.iload_n 3, 1) := by decide +kernel
theorem dX6_lines_49 : decode cX6_lines 49 = .ok (.iconst 1, 1) := by decide +kernel
theorem dX6_lines_50 : decode cX6_lines 50 = .ok (.isub, 1) := by decide +kernel
theorem dX6_lines_51 : decode cX6_lines 51 = .ok (.iaload, 1) := by decide +kernel
theorem dX6_lines_52 : decode cX6_lines 52 = .ok (.imul, 1) := by decide +kernel
theorem dX6_lines_53 : decode cX6_lines 53 = .ok (.iadd, 1) := by decide +kernel
theorem dX6_lines_54 : decode cX6_lines 54 = .ok (.iconst 1, 1) := by decide +kernel
theorem dX6_lines_55 : decode cX6_lines 55 = .ok (.iadd, 1) := by decide +kernel
theorem dX6_lines_56 : decode cX6_lines 56 = .ok (.iaload, 1) := by decide +kernel
theorem dX6_lines_57 : decode cX6_lines 57 = .ok (.aload_n 0, 1) := by decide +kernel
theorem dX6_lines_58 : decode cX6_lines 58 = .ok (.getfield 7, 3) := by decide +kernel
