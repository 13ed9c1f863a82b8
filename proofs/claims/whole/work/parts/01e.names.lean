theorem dX5_round_106 : decode cX5_round 106 = .ok (.aload_n 0, 1) := by decide +kernel
theorem dX5_round_107 : decode cX5_round 107 = .ok (.getfield 39, 3) := by decide +kernel
theorem dX5_round_110 : decode cX5_round 110 = .ok (.invokevirtual 120, 3) := by decide +kernel
theorem dX5_round_113 : decode cX5_round 113 = .ok (.pop, 1) := by decide +kernel
theorem dX5_round_114 : decode cX5_round 114 = .ok (.iinc 2 1, 3) := by decide +kernel
theorem dX5_round_117 : decode cX5_round 117 = .ok (.goto (-72), 3) := by decide +kernel
theorem dX5_round_120 : decode cX5_round 120 = .ok (.iload_n 2, 1) := by decide +kernel
theorem dX5_round_121 : decode cX5_round 121 = .ok (.ireturn, 1) := by decide +kernel
set_option maxRecDepth 20000 in
theorem ggX5_append_X5_isWithin : GoodIn wsX5_append wsX5_isWithin := goodIn_r _ [7] (by decide +kernel) (by decide +kernel)
set_option maxRecDepth 20000 in
theorem gX5_append_X5_isWithin : GoodIn wsX5_append (va_wsS RX5 58 yX5_isWithin wsX5_isWithin) := goodIn_app (goodIn_of _ (by decide +kernel)) ggX5_append_X5_isWithin
theorem dX5_append_0 : decode cX5_append 0 = .ok (.iload_n 1, 1) := by decide +kernel
theorem dX5_append_1 : decode cX5_append 1 = .ok (.bipush 32, 2) := by decide +kernel
theorem dX5_append_3 : decode cX5_append 3 = .ok (.bipush 126, 2) := by decide +kernel
theorem dX5_append_5 : decode cX5_append 5 = .ok (.invokestatic 58, 3) := by decide +kernel
theorem dX5_append_8 : decode cX5_append 8 = .ok (.ifCond .ne 6, 3) := by decide +kernel
theorem dX5_append_11 : decode cX5_append 11 = .ok (.bipush (-2), 2) := by decide +kernel
theorem dX5_append_13 : decode cX5_append 13 = .ok (.ireturn, 1) := by decide +kernel
theorem dX5_append_14 : decode cX5_append 14 = .ok (.aload_n 0, 1) := by decide +kernel
theorem dX5_append_15 : decode cX5_append 15 = .ok (.getfield 32, 3) := by decide +kernel
theorem dX5_append_18 : decode cX5_append 18 = .ok (.getfield 138, 3) := by decide +kernel
theorem dX5_append_21 : decode cX5_append 21 = .ok (.bipush 60, 2) := by decide +kernel
theorem dX5_append_23 : decode cX5_append 23 = .ok (.if_icmp .lt 6, 3) := by decide +kernel
theorem dX5_append_26 : decode cX5_append 26 = .ok (.bipush (-3), 2) := by decide +kernel
theorem dX5_append_28 : decode cX5_append 28 = .ok (.ireturn, 1) := by decide +kernel
theorem dX5_append_29 : decode cX5_append 29 = .ok (.aload_n 0, 1) := by decide +kernel
theorem dX5_append_30 : decode cX5_append 30 = .ok (.getfield 32, 3) := by decide +kernel
theorem dX5_append_33 : decode cX5_append 33 = .ok (.getfield 139, 3) := by decide +kernel
theorem dX5_append_36 : decode cX5_append 36 = .ok (.aload_n 0, 1) := by decide +kernel
theorem dX5_append_37 : decode cX5_append 37 = .ok (.getfield 32, 3) := by decide +kernel
theorem dX5_append_40 : decode cX5_append 40 = .ok (.getfield 138, 3) := by decide +kernel
theorem dX5_append_43 : decode cX5_append 43 = .ok (.iload_n 1, 1) := by decide +kernel
theorem dX5_append_44 : decode cX5_append 44 = .ok (.i2c, 1) := by decide +kernel
theorem dX5_append_45 : decode cX5_append 45 = .ok (.castore, 1) := by decide +kernel
theorem dX5_append_46 : decode cX5_append 46 = .ok (.aload_n 0, 1) := by decide +kernel
theorem dX5_append_47 : decode cX5_append 47 = .ok (.getfield 32, 3) := by decide +kernel
theorem dX5_append_50 : decode cX5_append 50 = .ok (.dup, 1) := by decide +kernel
theorem dX5_append_51 : decode cX5_append 51 = .ok (.getfield 138, 3) := by decide +kernel
theorem dX5_append_54 : decode cX5_append 54 = .ok (.iconst 1, 1) := by decide +kernel
theorem dX5_append_55 : decode cX5_append 55 = .ok (.iadd, 1) := by decide +kernel
theorem dX5_append_56 : decode cX5_append 56 = .ok (.putfield 138, 3) := by decide +kernel
theorem dX5_append_59 : decode cX5_append 59 = .ok (.aload_n 0, 1) := by decide +kernel
theorem dX5_append_60 : decode cX5_append 60 = .ok (.getfield 32, 3) := by decide +kernel
theorem dX5_append_63 : decode cX5_append 63 = .ok (.getfield 138, 3) := by decide +kernel
theorem dX5_append_66 : decode cX5_append 66 = .ok (.ireturn, 1) := by decide +kernel
theorem dX5_clearText_0 : decode cX5_clearText 0 = .ok (.aload_n 0, 1) := by decide +kernel
theorem dX5_clearText_1 : decode cX5_clearText 1 = .ok (.getfield 32, 3) := by decide +kernel
theorem dX5_clearText_4 : decode cX5_clearText 4 = .ok (.getfield 138, 3) := by decide +kernel
theorem dX5_clearText_7 : decode cX5_clearText 7 = .ok (.istore_n 1, 1) := by decide +kernel
theorem dX5_clearText_8 : decode cX5_clearText 8 = .ok (.aload_n 0, 1) := by decide +kernel
theorem dX5_clearText_9 : decode cX5_clearText 9 = .ok (.getfield 32, 3) := by decide +kernel
theorem dX5_clearText_12 : decode cX5_clearText 12 = .ok (.iconst 0, 1) := by decide +kernel
theorem dX5_clearText_13 : decode cX5_clearText 13 = .ok (.putfield 138, 3) := by decide +kernel
theorem dX5_clearText_16 : decode cX5_clearText 16 = .ok (.iload_n 1, 1) := by decide +kernel
theorem dX5_clearText_17 : decode cX5_clearText 17 = .ok (.ireturn, 1) := by decide +kernel
set_option maxRecDepth 20000 in
theorem ggX5_fault_X3_findFault : GoodIn wsX5_fault wsX3_findFault := goodIn_r _ [6, 7, 8, 9, 10, 11, 5, 12, 13, 14, 15, 16, 17, 18, 19, 20, 21, 22, 23, 24, 25, 26, 27, 28, 29, 30, 31, 32, 33, 34, 35, 36, 37, 46, 47, 48, 49, 50, 51, 52] (by decide +kernel) (by decide +kernel)
set_option maxRecDepth 20000 in
theorem gX5_fault_X3_findFault : GoodIn wsX5_fault (wsV RX5 143 RX3 yX3_findFault wsX3_findFault) := goodIn_app (goodIn_of _ (by decide +kernel)) ggX5_fault_X3_findFault
theorem dX5_fault_0 : decode cX5_fault 0 = .ok (.aload_n 0, 1) := by decide +kernel
theorem dX5_fault_1 : decode cX5_fault 1 = .ok (.getfield 32, 3) := by decide +kernel
theorem dX5_fault_4 : decode cX5_fault 4 = .ok (.invokevirtual 143, 3) := by decide +kernel
theorem dX5_fault_7 : decode cX5_fault 7 = .ok (.ireturn, 1) := by decide +kernel
set_option maxRecDepth 20000 in
theorem ggX5_run_X3_findFault : GoodIn wsX5_run wsX3_findFault := goodIn_r _ [8, 9, 10, 11, 12, 13, 7, 14, 15, 16, 17, 18, 19, 20, 21, 22, 23, 24, 25, 26, 27, 28, 29, 30, 31, 32, 33, 34, 35, 36, 37, 38, 39, 160, 161, 162, 163, 164, 165, 166] (by decide +kernel) (by decide +kernel)
set_option maxRecDepth 20000 in
theorem gX5_run_X3_findFault : GoodIn wsX5_run (wsV RX5 143 RX3 yX3_findFault wsX3_findFault) := goodIn_app (goodIn_of _ (by decide +kernel)) ggX5_run_X3_findFault
set_option maxRecDepth 20000 in
theorem ggX5_run_X1_keep : GoodIn wsX5_run wsX1_keep := goodIn_r _ [44, 45, 46, 47, 48, 49, 43, 50, 51, 52, 53, 54, 55, 56, 57, 58, 59, 60, 61, 62, 63, 64, 65, 66, 67, 68, 69, 70, 71, 72, 167, 168, 169, 170, 171, 172, 173, 174, 175, 176, 177, 178, 179, 180, 181] (by decide +kernel) (by decide +kernel)
set_option maxRecDepth 20000 in
theorem gX5_run_X1_keep : GoodIn wsX5_run (wsV RX5 70 RX1 yX1_keep wsX1_keep) := goodIn_app (goodIn_of _ (by decide +kernel)) ggX5_run_X1_keep
set_option maxRecDepth 20000 in
theorem ggX5_run_X3_rewind : GoodIn wsX5_run wsX3_rewind := goodIn_r _ [14, 9, 160, 161, 162, 163, 164, 165, 166] (by decide +kernel) (by decide +kernel)
set_option maxRecDepth 20000 in
theorem gX5_run_X3_rewind : GoodIn wsX5_run (wsV RX5 146 RX3 yX3_rewind wsX3_rewind) := goodIn_app (goodIn_of _ (by decide +kernel)) ggX5_run_X3_rewind
set_option maxRecDepth 20000 in
theorem ggX5_run_X3_readOrder : GoodIn wsX5_run wsX3_readOrder := goodIn_r _ [18, 19, 9, 20, 21, 22, 23, 24, 25, 7, 26, 10, 27, 28, 29, 30, 31, 32, 33, 34, 35, 36, 37, 38, 39, 160, 161, 162, 163, 164, 165, 166] (by decide +kernel) (by decide +kernel)
set_option maxRecDepth 20000 in
theorem gX5_run_X3_readOrder : GoodIn wsX5_run (wsV RX5 149 RX3 yX3_readOrder wsX3_readOrder) := goodIn_app (goodIn_of _ (by decide +kernel)) ggX5_run_X3_readOrder
set_option maxRecDepth 20000 in
theorem ggX5_run_X5_carryOutOrder : GoodIn wsX5_run wsX5_carryOutOrder := goodIn_r _ [79, 1, 80, 3, 81, 82, 83, 84, 85, 86, 54, 87, 56, 62, 88, 89, 90, 91, 68, 92, 93, 94, 95, 70, 96, 78, 97, 98, 99, 100, 101, 65, 102, 103, 104, 105, 106, 71, 107, 108, 109, 110, 66, 67, 111, 112, 113, 114, 115, 116, 117, 118, 119, 120, 121, 122, 123, 124, 125, 126, 63, 72, 64, 127, 128, 129, 130, 131, 132, 133, 134, 135, 136, 137, 138, 139, 140, 141, 142, 69, 143, 144, 145, 146, 147, 148, 149, 150, 152, 153, 154, 155, 156, 157, 158, 159, 160, 161, 162, 163, 164, 165, 166, 169, 170, 171, 172, 173, 174, 175, 176, 177, 178, 179, 180, 181] (by decide +kernel) (by decide +kernel)
set_option maxRecDepth 20000 in
theorem gX5_run_X5_carryOutOrder : GoodIn wsX5_run (wsV RX5 153 RX5 yX5_carryOutOrder wsX5_carryOutOrder) := goodIn_app (goodIn_of _ (by decide +kernel)) ggX5_run_X5_carryOutOrder
set_option maxRecDepth 20000 in
theorem ggX5_run_X3_take : GoodIn wsX5_run wsX3_take := goodIn_r _ [39, 9, 23, 24, 25, 7, 26, 10, 27, 160, 161, 162, 163, 164, 165, 166] (by decide +kernel) (by decide +kernel)
set_option maxRecDepth 20000 in
theorem gX5_run_X3_take : GoodIn wsX5_run (wsV RX5 156 RX3 yX3_take wsX3_take) := goodIn_app (goodIn_of _ (by decide +kernel)) ggX5_run_X3_take
theorem dX5_run_0 : decode cX5_run 0 = .ok (.aload_n 0, 1) := by decide +kernel
theorem dX5_run_1 : decode cX5_run 1 = .ok (.getfield 32, 3) := by decide +kernel
theorem dX5_run_4 : decode cX5_run 4 = .ok (.invokevirtual 143, 3) := by decide +kernel
theorem dX5_run_7 : decode cX5_run 7 = .ok (.istore_n 1, 1) := by decide +kernel
theorem dX5_run_8 : decode cX5_run 8 = .ok (.iload_n 1, 1) := by decide +kernel
theorem dX5_run_9 : decode cX5_run 9 = .ok (.bipush (-5), 2) := by decide +kernel
theorem dX5_run_11 : decode cX5_run 11 = .ok (.if_icmp .eq 8, 3) := by decide +kernel
theorem dX5_run_14 : decode cX5_run 14 = .ok (.bipush (-100), 2) := by decide +kernel
theorem dX5_run_16 : decode cX5_run 16 = .ok (.iload_n 1, 1) := by decide +kernel
theorem dX5_run_17 : decode cX5_run 17 = .ok (.isub, 1) := by decide +kernel
theorem dX5_run_18 : decode cX5_run 18 = .ok (.ireturn, 1) := by decide +kernel
theorem dX5_run_19 : decode cX5_run 19 = .ok (.aload_n 0, 1) := by decide +kernel
theorem dX5_run_20 : decode cX5_run 20 = .ok (.getfield 25, 3) := by decide +kernel
theorem dX5_run_23 : decode cX5_run 23 = .ok (.aload_n 0, 1) := by decide +kernel
theorem dX5_run_24 : decode cX5_run 24 = .ok (.getfield 10, 3) := by decide +kernel
theorem dX5_run_27 : decode cX5_run 27 = .ok (.invokevirtual 70, 3) := by decide +kernel
theorem dX5_run_30 : decode cX5_run 30 = .ok (.aload_n 0, 1) := by decide +kernel
theorem dX5_run_31 : decode cX5_run 31 = .ok (.getfield 32, 3) := by decide +kernel
theorem dX5_run_34 : decode cX5_run 34 = .ok (.invokevirtual 146, 3) := by decide +kernel
theorem dX5_run_37 : decode cX5_run 37 = .ok (.iconst 0, 1) := by decide +kernel
theorem dX5_run_38 : decode cX5_run 38 = .ok (.istore_n 2, 1) := by decide +kernel
theorem dX5_run_39 : decode cX5_run 39 = .ok (.iload_n 2, 1) := by decide +kernel
theorem dX5_run_40 : decode cX5_run 40 = .ok (.bipush 60, 2) := by decide +kernel
theorem dX5_run_42 : decode cX5_run 42 = .ok (.if_icmp .ge 37, 3) := by decide +kernel
theorem dX5_run_45 : decode cX5_run 45 = .ok (.aload_n 0, 1) := by decide +kernel
theorem dX5_run_46 : decode cX5_run 46 = .ok (.getfield 32, 3) := by decide +kernel
theorem dX5_run_49 : decode cX5_run 49 = .ok (.invokevirtual 149, 3) := by decide +kernel
theorem dX5_run_52 : decode cX5_run 52 = .ok (.ifCond .eq 27, 3) := by decide +kernel
theorem dX5_run_55 : decode cX5_run 55 = .ok (.aload_n 0, 1) := by decide +kernel
theorem dX5_run_56 : decode cX5_run 56 = .ok (.invokevirtual 153, 3) := by decide +kernel
theorem dX5_run_59 : decode cX5_run 59 = .ok (.ifCond .lt 20, 3) := by decide +kernel
theorem dX5_run_62 : decode cX5_run 62 = .ok (.iinc 2 1, 3) := by decide +kernel
theorem dX5_run_65 : decode cX5_run 65 = .ok (.aload_n 0, 1) := by decide +kernel
theorem dX5_run_66 : decode cX5_run 66 = .ok (.getfield 32, 3) := by decide +kernel
theorem dX5_run_69 : decode cX5_run 69 = .ok (.bipush 44, 2) := by decide +kernel
theorem dX5_run_71 : decode cX5_run 71 = .ok (.invokevirtual 156, 3) := by decide +kernel
theorem dX5_run_74 : decode cX5_run 74 = .ok (.ifCond .ne (-35), 3) := by decide +kernel
theorem dX5_run_77 : decode cX5_run 77 = .ok (.iload_n 2, 1) := by decide +kernel
theorem dX5_run_78 : decode cX5_run 78 = .ok (.ireturn, 1) := by decide +kernel
theorem dX5_run_79 : decode cX5_run 79 = .ok (.iload_n 2, 1) := by decide +kernel
theorem dX5_run_80 : decode cX5_run 80 = .ok (.ireturn, 1) := by decide +kernel
set_option maxRecDepth 20000 in
theorem ggX5_undo_X1_bringBack : GoodIn wsX5_undo wsX1_bringBack := goodIn_r _ [7, 8, 9, 10, 11, 12, 13, 14, 15, 16, 17, 18, 19, 20, 21, 22, 23, 24, 25, 26, 27, 28, 29, 30, 31, 40, 41, 42, 43, 44, 45, 46, 47, 48, 49, 50, 51, 52, 53, 54] (by decide +kernel) (by decide +kernel)
set_option maxRecDepth 20000 in
theorem gX5_undo_X1_bringBack : GoodIn wsX5_undo (wsV RX5 160 RX1 yX1_bringBack wsX1_bringBack) := goodIn_app (goodIn_of _ (by decide +kernel)) ggX5_undo_X1_bringBack
theorem dX5_undo_0 : decode cX5_undo 0 = .ok (.aload_n 0, 1) := by decide +kernel
theorem dX5_undo_1 : decode cX5_undo 1 = .ok (.getfield 25, 3) := by decide +kernel
theorem dX5_undo_4 : decode cX5_undo 4 = .ok (.aload_n 0, 1) := by decide +kernel
theorem dX5_undo_5 : decode cX5_undo 5 = .ok (.getfield 10, 3) := by decide +kernel
theorem dX5_undo_8 : decode cX5_undo 8 = .ok (.invokevirtual 160, 3) := by decide +kernel
theorem dX5_undo_11 : decode cX5_undo 11 = .ok (.ireturn, 1) := by decide +kernel
set_option maxRecDepth 20000 in
theorem ggX5_save_X4_copyFrom : GoodIn wsX5_save wsX4_copyFrom := goodIn_r _ [8, 9, 10, 11, 12, 13, 14, 15, 16, 17, 18, 19, 20, 21, 22, 23, 24, 25, 42, 43, 44, 45, 46, 47, 48, 49, 50, 51, 52, 53, 54] (by decide +kernel) (by decide +kernel)
set_option maxRecDepth 20000 in
theorem gX5_save_X4_copyFrom : GoodIn wsX5_save (wsV RX5 164 RX4 yX4_copyFrom wsX4_copyFrom) := goodIn_app (goodIn_of _ (by decide +kernel)) ggX5_save_X4_copyFrom
set_option maxRecDepth 20000 in
theorem ggX5_save_X4_conkersBeing : GoodIn wsX5_save wsX4_conkersBeing := goodIn_r _ [29, 23, 21, 30, 31, 32, 7, 33, 15, 42, 43, 44, 45, 46, 47, 48, 49, 50, 51, 52, 53, 54] (by decide +kernel) (by decide +kernel)
set_option maxRecDepth 20000 in
theorem gX5_save_X4_conkersBeing : GoodIn wsX5_save (wsV RX5 167 RX4 yX4_conkersBeing wsX4_conkersBeing) := goodIn_app (goodIn_of _ (by decide +kernel)) ggX5_save_X4_conkersBeing
theorem dX5_save_0 : decode cX5_save 0 = .ok (.aload_n 0, 1) := by decide +kernel
theorem dX5_save_1 : decode cX5_save 1 = .ok (.getfield 16, 3) := by decide +kernel
theorem dX5_save_4 : decode cX5_save 4 = .ok (.aload_n 0, 1) := by decide +kernel
theorem dX5_save_5 : decode cX5_save 5 = .ok (.getfield 10, 3) := by decide +kernel
theorem dX5_save_8 : decode cX5_save 8 = .ok (.invokevirtual 164, 3) := by decide +kernel
theorem dX5_save_11 : decode cX5_save 11 = .ok (.aload_n 0, 1) := by decide +kernel
theorem dX5_save_12 : decode cX5_save 12 = .ok (.iconst 1, 1) := by decide +kernel
theorem dX5_save_13 : decode cX5_save 13 = .ok (.putfield 50, 3) := by decide +kernel
theorem dX5_save_16 : decode cX5_save 16 = .ok (.aload_n 0, 1) := by decide +kernel
theorem dX5_save_17 : decode cX5_save 17 = .ok (.getfield 10, 3) := by decide +kernel
theorem dX5_save_20 : decode cX5_save 20 = .ok (.iconst 0, 1) := by decide +kernel
theorem dX5_save_21 : decode cX5_save 21 = .ok (.iconst (-1), 1) := by decide +kernel
theorem dX5_save_22 : decode cX5_save 22 = .ok (.invokevirtual 167, 3) := by decide +kernel
theorem dX5_save_25 : decode cX5_save 25 = .ok (.ireturn, 1) := by decide +kernel
set_option maxRecDepth 20000 in
theorem ggX5_restore_X1_keep : GoodIn wsX5_restore wsX1_keep := goodIn_r _ [9, 10, 11, 12, 13, 14, 8, 15, 16, 17, 18, 19, 20, 21, 22, 23, 24, 25, 26, 27, 28, 29, 30, 31, 32, 33, 34, 35, 36, 37, 55, 56, 57, 58, 59, 60, 61, 62, 63, 64, 65, 66, 67, 68, 69] (by decide +kernel) (by decide +kernel)
set_option maxRecDepth 20000 in
theorem gX5_restore_X1_keep : GoodIn wsX5_restore (wsV RX5 70 RX1 yX1_keep wsX1_keep) := goodIn_app (goodIn_of _ (by decide +kernel)) ggX5_restore_X1_keep
set_option maxRecDepth 20000 in
theorem ggX5_restore_X4_copyFrom : GoodIn wsX5_restore wsX4_copyFrom := goodIn_r _ [20, 21, 22, 23, 24, 25, 26, 27, 28, 29, 30, 31, 32, 33, 34, 35, 36, 37, 57, 58, 59, 60, 61, 62, 63, 64, 65, 66, 67, 68, 69] (by decide +kernel) (by decide +kernel)
set_option maxRecDepth 20000 in
theorem gX5_restore_X4_copyFrom : GoodIn wsX5_restore (wsV RX5 164 RX4 yX4_copyFrom wsX4_copyFrom) := goodIn_app (goodIn_of _ (by decide +kernel)) ggX5_restore_X4_copyFrom
set_option maxRecDepth 20000 in
theorem ggX5_restore_X4_conkersBeing : GoodIn wsX5_restore wsX4_conkersBeing := goodIn_r _ [42, 35, 33, 43, 44, 45, 19, 46, 27, 57, 58, 59, 60, 61, 62, 63, 64, 65, 66, 67, 68, 69] (by decide +kernel) (by decide +kernel)
set_option maxRecDepth 20000 in
theorem gX5_restore_X4_conkersBeing : GoodIn wsX5_restore (wsV RX5 167 RX4 yX4_conkersBeing wsX4_conkersBeing) := goodIn_app (goodIn_of _ (by decide +kernel)) ggX5_restore_X4_conkersBeing
theorem dX5_restore_0 : decode cX5_restore 0 = .ok (.aload_n 0, 1) := by decide +kernel
theorem dX5_restore_1 : decode cX5_restore 1 = .ok (.getfield 50, 3) := by decide +kernel
theorem dX5_restore_4 : decode cX5_restore 4 = .ok (.ifCond .ne 6, 3) := by decide +kernel
theorem dX5_restore_7 : decode cX5_restore 7 = .ok (.bipush (-4), 2) := by decide +kernel
theorem dX5_restore_9 : decode cX5_restore 9 = .ok (.ireturn, 1) := by decide +kernel
theorem dX5_restore_10 : decode cX5_restore 10 = .ok (.aload_n 0, 1) := by decide +kernel
theorem dX5_restore_11 : decode cX5_restore 11 = .ok (.getfield 25, 3) := by decide +kernel
theorem dX5_restore_14 : decode cX5_restore 14 = .ok (.aload_n 0, 1) := by decide +kernel
theorem dX5_restore_15 : decode cX5_restore 15 = .ok (.getfield 10, 3) := by decide +kernel
theorem dX5_restore_18 : decode cX5_restore 18 = .ok (.invokevirtual 70, 3) := by decide +kernel
theorem dX5_restore_21 : decode cX5_restore 21 = .ok (.aload_n 0, 1) := by decide +kernel
theorem dX5_restore_22 : decode cX5_restore 22 = .ok (.getfield 10, 3) := by decide +kernel
theorem dX5_restore_25 : decode cX5_restore 25 = .ok (.aload_n 0, 1) := by decide +kernel
theorem dX5_restore_26 : decode cX5_restore 26 = .ok (.getfield 16, 3) := by decide +kernel
theorem dX5_restore_29 : decode cX5_restore 29 = .ok (.invokevirtual 164, 3) := by decide +kernel
theorem dX5_restore_32 : decode cX5_restore 32 = .ok (.aload_n 0, 1) := by decide +kernel
theorem dX5_restore_33 : decode cX5_restore 33 = .ok (.getfield 10, 3) := by decide +kernel
theorem dX5_restore_36 : decode cX5_restore 36 = .ok (.iconst 0, 1) := by decide +kernel
theorem dX5_restore_37 : decode cX5_restore 37 = .ok (.iconst (-1), 1) := by decide +kernel
theorem dX5_restore_38 : decode cX5_restore 38 = .ok (.invokevirtual 167, 3) := by decide +kernel
theorem dX5_restore_41 : decode cX5_restore 41 = .ok (.ireturn, 1) := by decide +kernel
set_option maxRecDepth 20000 in
theorem ggX5_conker_X4_hasConker : GoodIn wsX5_conker wsX4_hasConker := goodIn_r _ [14, 15, 16, 17, 18, 32, 33, 34, 35, 36, 37, 38, 39, 40, 41, 42, 43, 44] (by decide +kernel) (by decide +kernel)
set_option maxRecDepth 20000 in
theorem gX5_conker_X4_hasConker : GoodIn wsX5_conker (wsV RX5 98 RX4 yX4_hasConker wsX4_hasConker) := goodIn_app (goodIn_of _ (by decide +kernel)) ggX5_conker_X4_hasConker
set_option maxRecDepth 20000 in
theorem ggX5_conker_X4_conkersSmashedBy : GoodIn wsX5_conker wsX4_conkersSmashedBy := goodIn_r _ [22, 15, 23, 32, 33, 34, 35, 36, 37, 38, 39, 40, 41, 42, 43, 44] (by decide +kernel) (by decide +kernel)
set_option maxRecDepth 20000 in
theorem gX5_conker_X4_conkersSmashedBy : GoodIn wsX5_conker (wsV RX5 185 RX4 yX4_conkersSmashedBy wsX4_conkersSmashedBy) := goodIn_app (goodIn_of _ (by decide +kernel)) ggX5_conker_X4_conkersSmashedBy
theorem dX5_conker_0 : decode cX5_conker 0 = .ok (.aload_n 0, 1) := by decide +kernel
theorem dX5_conker_1 : decode cX5_conker 1 = .ok (.getfield 10, 3) := by decide +kernel
theorem dX5_conker_4 : decode cX5_conker 4 = .ok (.iload_n 1, 1) := by decide +kernel
theorem dX5_conker_5 : decode cX5_conker 5 = .ok (.invokevirtual 98, 3) := by decide +kernel
theorem dX5_conker_8 : decode cX5_conker 8 = .ok (.ifCond .ne 5, 3) := by decide +kernel
theorem dX5_conker_11 : decode cX5_conker 11 = .ok (.iconst (-1), 1) := by decide +kernel
theorem dX5_conker_12 : decode cX5_conker 12 = .ok (.ireturn, 1) := by decide +kernel
theorem dX5_conker_13 : decode cX5_conker 13 = .ok (.iload_n 2, 1) := by decide +kernel
theorem dX5_conker_14 : decode cX5_conker 14 = .ok (.tableswitch 139 0 8 #[50, 60, 70, 80, 90, 100, 110, 120, 130], 50) := by decide +kernel
theorem dX5_conker_64 : decode cX5_conker 64 = .ok (.aload_n 0, 1) := by decide +kernel
theorem dX5_conker_65 : decode cX5_conker 65 = .ok (.getfield 10, 3) := by decide +kernel
theorem dX5_conker_68 : decode cX5_conker 68 = .ok (.getfield 107, 3) := by decide +kernel
theorem dX5_conker_71 : decode cX5_conker 71 = .ok (.iload_n 1, 1) := by decide +kernel
theorem dX5_conker_72 : decode cX5_conker 72 = .ok (.iaload, 1) := by decide +kernel
theorem dX5_conker_73 : decode cX5_conker 73 = .ok (.ireturn, 1) := by decide +kernel
theorem dX5_conker_74 : decode cX5_conker 74 = .ok (.aload_n 0, 1) := by decide +kernel
theorem dX5_conker_75 : decode cX5_conker 75 = .ok (.getfield 10, 3) := by decide +kernel
theorem dX5_conker_78 : decode cX5_conker 78 = .ok (.getfield 170, 3) := by decide +kernel
theorem dX5_conker_81 : decode cX5_conker 81 = .ok (.iload_n 1, 1) := by decide +kernel
theorem dX5_conker_82 : decode cX5_conker 82 = .ok (.iaload, 1) := by decide +kernel
theorem dX5_conker_83 : decode cX5_conker 83 = .ok (.ireturn, 1) := by decide +kernel
theorem dX5_conker_84 : decode cX5_conker 84 = .ok (.aload_n 0, 1) := by decide +kernel
theorem dX5_conker_85 : decode cX5_conker 85 = .ok (.getfield 10, 3) := by decide +kernel
theorem dX5_conker_88 : decode cX5_conker 88 = .ok (.getfield 173, 3) := by decide +kernel
theorem dX5_conker_91 : decode cX5_conker 91 = .ok (.iload_n 1, 1) := by decide +kernel
theorem dX5_conker_92 : decode cX5_conker 92 = .ok (.iaload, 1) := by decide +kernel
theorem dX5_conker_93 : decode cX5_conker 93 = .ok (.ireturn, 1) := by decide +kernel
theorem dX5_conker_94 : decode cX5_conker 94 = .ok (.aload_n 0, 1) := by decide +kernel
theorem dX5_conker_95 : decode cX5_conker 95 = .ok (.getfield 10, 3) := by decide +kernel
theorem dX5_conker_98 : decode cX5_conker 98 = .ok (.getfield 176, 3) := by decide +kernel
theorem dX5_conker_101 : decode cX5_conker 101 = .ok (.iload_n 1, 1) := by decide +kernel
theorem dX5_conker_102 : decode cX5_conker 102 = .ok (.iaload, 1) := by decide +kernel
theorem dX5_conker_103 : decode cX5_conker 103 = .ok (.ireturn, 1) := by decide +kernel
theorem dX5_conker_104 : decode cX5_conker 104 = .ok (.aload_n 0, 1) := by decide +kernel
theorem dX5_conker_105 : decode cX5_conker 105 = .ok (.getfield 10, 3) := by decide +kernel
theorem dX5_conker_108 : decode cX5_conker 108 = .ok (.getfield 179, 3) := by decide +kernel
theorem dX5_conker_111 : decode cX5_conker 111 = .ok (.iload_n 1, 1) := by decide +kernel
theorem dX5_conker_112 : decode cX5_conker 112 = .ok (.iaload, 1) := by decide +kernel
theorem dX5_conker_113 : decode cX5_conker 113 = .ok (.ireturn, 1) := by decide +kernel
theorem dX5_conker_114 : decode cX5_conker 114 = .ok (.aload_n 0, 1) := by decide +kernel
theorem dX5_conker_115 : decode cX5_conker 115 = .ok (.getfield 10, 3) := by decide +kernel
theorem dX5_conker_118 : decode cX5_conker 118 = .ok (.getfield 104, 3) := by decide +kernel
theorem dX5_conker_121 : decode cX5_conker 121 = .ok (.iload_n 1, 1) := by decide +kernel
theorem dX5_conker_122 : decode cX5_conker 122 = .ok (.iaload, 1) := by decide +kernel
theorem dX5_conker_123 : decode cX5_conker 123 = .ok (.ireturn, 1) := by decide +kernel
theorem dX5_conker_124 : decode cX5_conker 124 = .ok (.aload_n 0, 1) := by decide +kernel
theorem dX5_conker_125 : decode cX5_conker 125 = .ok (.getfield 10, 3) := by decide +kernel
theorem dX5_conker_128 : decode cX5_conker 128 = .ok (.getfield 101, 3) := by decide +kernel
theorem dX5_conker_131 : decode cX5_conker 131 = .ok (.iload_n 1, 1) := by decide +kernel
theorem dX5_conker_132 : decode cX5_conker 132 = .ok (.iaload, 1) := by decide +kernel
theorem dX5_conker_133 : decode cX5_conker 133 = .ok (.ireturn, 1) := by decide +kernel
theorem dX5_conker_134 : decode cX5_conker 134 = .ok (.aload_n 0, 1) := by decide +kernel
theorem dX5_conker_135 : decode cX5_conker 135 = .ok (.getfield 10, 3) := by decide +kernel
theorem dX5_conker_138 : decode cX5_conker 138 = .ok (.getfield 182, 3) := by decide +kernel
theorem dX5_conker_141 : decode cX5_conker 141 = .ok (.iload_n 1, 1) := by decide +kernel
theorem dX5_conker_142 : decode cX5_conker 142 = .ok (.iaload, 1) := by decide +kernel
theorem dX5_conker_143 : decode cX5_conker 143 = .ok (.ireturn, 1) := by decide +kernel
theorem dX5_conker_144 : decode cX5_conker 144 = .ok (.aload_n 0, 1) := by decide +kernel
theorem dX5_conker_145 : decode cX5_conker 145 = .ok (.getfield 10, 3) := by decide +kernel
theorem dX5_conker_148 : decode cX5_conker 148 = .ok (.iload_n 1, 1) := by decide +kernel
theorem dX5_conker_149 : decode cX5_conker 149 = .ok (.invokevirtual 185, 3) := by decide +kernel
theorem dX5_conker_152 : decode cX5_conker 152 = .ok (.ireturn, 1) := by decide +kernel
theorem dX5_conker_153 : decode cX5_conker 153 = .ok (.bipush (-2), 2) := by decide +kernel
theorem dX5_conker_155 : decode cX5_conker 155 = .ok (.ireturn, 1) := by decide +kernel
set_option maxRecDepth 20000 in
theorem ggX5_player_X5_isPlayer : GoodIn wsX5_player wsX5_isPlayer := goodIn_r _ [7, 8, 9, 6, 10] (by decide +kernel) (by decide +kernel)
set_option maxRecDepth 20000 in
theorem gX5_player_X5_isPlayer : GoodIn wsX5_player (va_wsS RX5 54 yX5_isPlayer wsX5_isPlayer) := goodIn_app (goodIn_of _ (by decide +kernel)) ggX5_player_X5_isPlayer
set_option maxRecDepth 20000 in
theorem ggX5_player_X4_conkersBeing : GoodIn wsX5_player wsX4_conkersBeing := goodIn_r _ [15, 16, 17, 18, 19, 20, 14, 21, 22, 40, 41, 42, 43, 44, 45, 46, 47, 48, 49, 50, 51, 52] (by decide +kernel) (by decide +kernel)
set_option maxRecDepth 20000 in
theorem gX5_player_X4_conkersBeing : GoodIn wsX5_player (wsV RX5 167 RX4 yX4_conkersBeing wsX4_conkersBeing) := goodIn_app (goodIn_of _ (by decide +kernel)) ggX5_player_X4_conkersBeing
set_option maxRecDepth 20000 in
theorem ggX5_player_X4_victoriesOf : GoodIn wsX5_player wsX4_victoriesOf := goodIn_r _ [26, 16, 27, 18, 19, 20, 14, 21, 22, 40, 41, 42, 43, 44, 45, 46, 47, 48, 49, 50, 51, 52] (by decide +kernel) (by decide +kernel)
set_option maxRecDepth 20000 in
theorem gX5_player_X4_victoriesOf : GoodIn wsX5_player (wsV RX5 191 RX4 yX4_victoriesOf wsX4_victoriesOf) := goodIn_app (goodIn_of _ (by decide +kernel)) ggX5_player_X4_victoriesOf
set_option maxRecDepth 20000 in
theorem ggX5_player_X4_conkerToSend : GoodIn wsX5_player wsX4_conkerToSend := goodIn_r _ [31, 16, 17, 22, 27, 40, 41, 42, 43, 44, 45, 46, 47, 48, 49, 50, 51, 52] (by decide +kernel) (by decide +kernel)
set_option maxRecDepth 20000 in
theorem gX5_player_X4_conkerToSend : GoodIn wsX5_player (wsV RX5 194 RX4 yX4_conkerToSend wsX4_conkerToSend) := goodIn_app (goodIn_of _ (by decide +kernel)) ggX5_player_X4_conkerToSend
theorem dX5_player_0 : decode cX5_player 0 = .ok (.iload_n 1, 1) := by decide +kernel
theorem dX5_player_1 : decode cX5_player 1 = .ok (.invokestatic 54, 3) := by decide +kernel
theorem dX5_player_4 : decode cX5_player 4 = .ok (.ifCond .ne 5, 3) := by decide +kernel
theorem dX5_player_7 : decode cX5_player 7 = .ok (.iconst (-1), 1) := by decide +kernel
theorem dX5_player_8 : decode cX5_player 8 = .ok (.ireturn, 1) := by decide +kernel
theorem dX5_player_9 : decode cX5_player 9 = .ok (.iload_n 2, 1) := by decide +kernel
theorem dX5_player_10 : decode cX5_player 10 = .ok (.tableswitch 110 0 6 #[42, 52, 62, 72, 82, 92, 101], 42) := by decide +kernel
theorem dX5_player_52 : decode cX5_player 52 = .ok (.aload_n 0, 1) := by decide +kernel
theorem dX5_player_53 : decode cX5_player 53 = .ok (.getfield 10, 3) := by decide +kernel
theorem dX5_player_56 : decode cX5_player 56 = .ok (.getfield 62, 3) := by decide +kernel
theorem dX5_player_59 : decode cX5_player 59 = .ok (.iload_n 1, 1) := by decide +kernel
theorem dX5_player_60 : decode cX5_player 60 = .ok (.iaload, 1) := by decide +kernel
theorem dX5_player_61 : decode cX5_player 61 = .ok (.ireturn, 1) := by decide +kernel
theorem dX5_player_62 : decode cX5_player 62 = .ok (.aload_n 0, 1) := by decide +kernel
theorem dX5_player_63 : decode cX5_player 63 = .ok (.getfield 10, 3) := by decide +kernel
theorem dX5_player_66 : decode cX5_player 66 = .ok (.getfield 188, 3) := by decide +kernel
theorem dX5_player_69 : decode cX5_player 69 = .ok (.iload_n 1, 1) := by decide +kernel
theorem dX5_player_70 : decode cX5_player 70 = .ok (.iaload, 1) := by decide +kernel
theorem dX5_player_71 : decode cX5_player 71 = .ok (.ireturn, 1) := by decide +kernel
theorem dX5_player_72 : decode cX5_player 72 = .ok (.aload_n 0, 1) := by decide +kernel
theorem dX5_player_73 : decode cX5_player 73 = .ok (.getfield 10, 3) := by decide +kernel
theorem dX5_player_76 : decode cX5_player 76 = .ok (.iconst 0, 1) := by decide +kernel
theorem dX5_player_77 : decode cX5_player 77 = .ok (.iload_n 1, 1) := by decide +kernel
theorem dX5_player_78 : decode cX5_player 78 = .ok (.invokevirtual 167, 3) := by decide +kernel
theorem dX5_player_81 : decode cX5_player 81 = .ok (.ireturn, 1) := by decide +kernel
theorem dX5_player_82 : decode cX5_player 82 = .ok (.aload_n 0, 1) := by decide +kernel
theorem dX5_player_83 : decode cX5_player 83 = .ok (.getfield 10, 3) := by decide +kernel
theorem dX5_player_86 : decode cX5_player 86 = .ok (.iconst 1, 1) := by decide +kernel
theorem dX5_player_87 : decode cX5_player 87 = .ok (.iload_n 1, 1) := by decide +kernel
theorem dX5_player_88 : decode cX5_player 88 = .ok (.invokevirtual 167, 3) := by decide +kernel
theorem dX5_player_91 : decode cX5_player 91 = .ok (.ireturn, 1) := by decide +kernel
theorem dX5_player_92 : decode cX5_player 92 = .ok (.aload_n 0, 1) := by decide +kernel
theorem dX5_player_93 : decode cX5_player 93 = .ok (.getfield 10, 3) := by decide +kernel
theorem dX5_player_96 : decode cX5_player 96 = .ok (.iconst 2, 1) := by decide +kernel
theorem dX5_player_97 : decode cX5_player 97 = .ok (.iload_n 1, 1) := by decide +kernel
theorem dX5_player_98 : decode cX5_player 98 = .ok (.invokevirtual 167, 3) := by decide +kernel
theorem dX5_player_101 : decode cX5_player 101 = .ok (.ireturn, 1) := by decide +kernel
theorem dX5_player_102 : decode cX5_player 102 = .ok (.aload_n 0, 1) := by decide +kernel
theorem dX5_player_103 : decode cX5_player 103 = .ok (.getfield 10, 3) := by decide +kernel
theorem dX5_player_106 : decode cX5_player 106 = .ok (.iload_n 1, 1) := by decide +kernel
theorem dX5_player_107 : decode cX5_player 107 = .ok (.invokevirtual 191, 3) := by decide +kernel
theorem dX5_player_110 : decode cX5_player 110 = .ok (.ireturn, 1) := by decide +kernel
theorem dX5_player_111 : decode cX5_player 111 = .ok (.aload_n 0, 1) := by decide +kernel
theorem dX5_player_112 : decode cX5_player 112 = .ok (.getfield 10, 3) := by decide +kernel
theorem dX5_player_115 : decode cX5_player 115 = .ok (.iload_n 1, 1) := by decide +kernel
theorem dX5_player_116 : decode cX5_player 116 = .ok (.invokevirtual 194, 3) := by decide +kernel
theorem dX5_player_119 : decode cX5_player 119 = .ok (.ireturn, 1) := by decide +kernel
theorem dX5_player_120 : decode cX5_player 120 = .ok (.bipush (-2), 2) := by decide +kernel
theorem dX5_player_122 : decode cX5_player 122 = .ok (.ireturn, 1) := by decide +kernel
set_option maxRecDepth 20000 in
theorem ggX5_ranked_X4_conkerAtRank : GoodIn wsX5_ranked wsX4_conkerAtRank := goodIn_r _ [6, 7, 8, 9, 10, 11, 5, 12, 13, 22, 23, 24, 25, 26, 27, 28, 29, 30, 31, 32, 33, 34] (by decide +kernel) (by decide +kernel)
set_option maxRecDepth 20000 in
theorem gX5_ranked_X4_conkerAtRank : GoodIn wsX5_ranked (wsV RX5 197 RX4 yX4_conkerAtRank wsX4_conkerAtRank) := goodIn_app (goodIn_of _ (by decide +kernel)) ggX5_ranked_X4_conkerAtRank
theorem dX5_ranked_0 : decode cX5_ranked 0 = .ok (.iload_n 1, 1) := by decide +kernel
theorem dX5_ranked_1 : decode cX5_ranked 1 = .ok (.ifCond .ge 6, 3) := by decide +kernel
theorem dX5_ranked_4 : decode cX5_ranked 4 = .ok (.bipush (-2), 2) := by decide +kernel
theorem dX5_ranked_6 : decode cX5_ranked 6 = .ok (.ireturn, 1) := by decide +kernel
theorem dX5_ranked_7 : decode cX5_ranked 7 = .ok (.aload_n 0, 1) := by decide +kernel
theorem dX5_ranked_8 : decode cX5_ranked 8 = .ok (.getfield 10, 3) := by decide +kernel
theorem dX5_ranked_11 : decode cX5_ranked 11 = .ok (.iload_n 1, 1) := by decide +kernel
theorem dX5_ranked_12 : decode cX5_ranked 12 = .ok (.invokevirtual 197, 3) := by decide +kernel
theorem dX5_ranked_15 : decode cX5_ranked 15 = .ok (.ireturn, 1) := by decide +kernel
set_option maxRecDepth 20000 in
theorem ggX5_line_X4_hasConker : GoodIn wsX5_line wsX4_hasConker := goodIn_r _ [6, 7, 8, 9, 10, 29, 30, 31, 32, 33, 34, 35, 36, 37, 38, 39, 40, 41] (by decide +kernel) (by decide +kernel)
set_option maxRecDepth 20000 in
theorem gX5_line_X4_hasConker : GoodIn wsX5_line (wsV RX5 98 RX4 yX4_hasConker wsX4_hasConker) := goodIn_app (goodIn_of _ (by decide +kernel)) ggX5_line_X4_hasConker
set_option maxRecDepth 20000 in
theorem ggX5_line_X4_lengthOfLine : GoodIn wsX5_line wsX4_lengthOfLine := goodIn_r _ [14, 7, 15, 16, 17, 5, 18, 19, 20, 3, 4, 6, 8, 9, 10, 29, 30, 31, 32, 33, 34, 35, 36, 37, 38, 39, 40, 41] (by decide +kernel) (by decide +kernel)
set_option maxRecDepth 20000 in
theorem gX5_line_X4_lengthOfLine : GoodIn wsX5_line (wsV RX5 200 RX4 yX4_lengthOfLine wsX4_lengthOfLine) := goodIn_app (goodIn_of _ (by decide +kernel)) ggX5_line_X4_lengthOfLine
theorem dX5_line_0 : decode cX5_line 0 = .ok (.aload_n 0, 1) := by decide +kernel
theorem dX5_line_1 : decode cX5_line 1 = .ok (.getfield 10, 3) := by decide +kernel
theorem dX5_line_4 : decode cX5_line 4 = .ok (.iload_n 1, 1) := by decide +kernel
theorem dX5_line_5 : decode cX5_line 5 = .ok (.invokevirtual 98, 3) := by decide +kernel
theorem dX5_line_8 : decode cX5_line 8 = .ok (.ifCond .ne 5, 3) := by decide +kernel
theorem dX5_line_11 : decode cX5_line 11 = .ok (.iconst (-1), 1) := by decide +kernel
theorem dX5_line_12 : decode cX5_line 12 = .ok (.ireturn, 1) := by decide +kernel
theorem dX5_line_13 : decode cX5_line 13 = .ok (.aload_n 0, 1) := by decide +kernel
theorem dX5_line_14 : decode cX5_line 14 = .ok (.getfield 10, 3) := by decide +kernel
theorem dX5_line_17 : decode cX5_line 17 = .ok (.iload_n 1, 1) := by decide +kernel
theorem dX5_line_18 : decode cX5_line 18 = .ok (.invokevirtual 200, 3) := by decide +kernel
theorem dX5_line_21 : decode cX5_line 21 = .ok (.ireturn, 1) := by decide +kernel
set_option maxRecDepth 20000 in
theorem ggX5_count_X4_conkersBeing : GoodIn wsX5_count wsX4_conkersBeing := goodIn_r _ [13, 14, 15, 16, 17, 18, 12, 19, 20, 52, 53, 54, 55, 56, 57, 58, 59, 60, 61, 62, 63, 64] (by decide +kernel) (by decide +kernel)
set_option maxRecDepth 20000 in
theorem gX5_count_X4_conkersBeing : GoodIn wsX5_count (wsV RX5 167 RX4 yX4_conkersBeing wsX4_conkersBeing) := goodIn_app (goodIn_of _ (by decide +kernel)) ggX5_count_X4_conkersBeing
set_option maxRecDepth 20000 in
theorem ggX5_count_X4_victoriesOf : GoodIn wsX5_count wsX4_victoriesOf := goodIn_r _ [24, 14, 25, 16, 17, 18, 12, 19, 20, 52, 53, 54, 55, 56, 57, 58, 59, 60, 61, 62, 63, 64] (by decide +kernel) (by decide +kernel)
set_option maxRecDepth 20000 in
theorem gX5_count_X4_victoriesOf : GoodIn wsX5_count (wsV RX5 191 RX4 yX4_victoriesOf wsX4_victoriesOf) := goodIn_app (goodIn_of _ (by decide +kernel)) ggX5_count_X4_victoriesOf
set_option maxRecDepth 20000 in
theorem ggX5_count_X4_conkersWithHeir : GoodIn wsX5_count wsX4_conkersWithHeir := goodIn_r _ [29, 14, 30, 31, 32, 12, 33, 34, 52, 53, 54, 55, 56, 57, 58, 59, 60, 61, 62, 63, 64] (by decide +kernel) (by decide +kernel)
set_option maxRecDepth 20000 in
theorem gX5_count_X4_conkersWithHeir : GoodIn wsX5_count (wsV RX5 209 RX4 yX4_conkersWithHeir wsX4_conkersWithHeir) := goodIn_app (goodIn_of _ (by decide +kernel)) ggX5_count_X4_conkersWithHeir
set_option maxRecDepth 20000 in
theorem ggX5_count_X4_boastsTold : GoodIn wsX5_count wsX4_boastsTold := goodIn_r _ [38, 14, 39, 52, 53, 54, 55, 56, 57, 58, 59, 60, 61, 62, 63, 64] (by decide +kernel) (by decide +kernel)
set_option maxRecDepth 20000 in
theorem gX5_count_X4_boastsTold : GoodIn wsX5_count (wsV RX5 212 RX4 yX4_boastsTold wsX4_boastsTold) := goodIn_app (goodIn_of _ (by decide +kernel)) ggX5_count_X4_boastsTold
set_option maxRecDepth 20000 in
theorem ggX5_count_X4_boastsTooHigh : GoodIn wsX5_count wsX4_boastsTooHigh := goodIn_r _ [43, 14, 39, 25, 52, 53, 54, 55, 56, 57, 58, 59, 60, 61, 62, 63, 64] (by decide +kernel) (by decide +kernel)
set_option maxRecDepth 20000 in
theorem gX5_count_X4_boastsTooHigh : GoodIn wsX5_count (wsV RX5 215 RX4 yX4_boastsTooHigh wsX4_boastsTooHigh) := goodIn_app (goodIn_of _ (by decide +kernel)) ggX5_count_X4_boastsTooHigh
theorem dX5_count_0 : decode cX5_count 0 = .ok (.iload_n 1, 1) := by decide +kernel
theorem dX5_count_1 : decode cX5_count 1 = .ok (.tableswitch 166 0 11 #[63, 71, 81, 91, 101, 110, 118, 126, 134, 142, 150, 158], 63) := by decide +kernel
theorem dX5_count_64 : decode cX5_count 64 = .ok (.aload_n 0, 1) := by decide +kernel
theorem dX5_count_65 : decode cX5_count 65 = .ok (.getfield 10, 3) := by decide +kernel
theorem dX5_count_68 : decode cX5_count 68 = .ok (.getfield 66, 3) := by decide +kernel
theorem dX5_count_71 : decode cX5_count 71 = .ok (.ireturn, 1) := by decide +kernel
theorem dX5_count_72 : decode cX5_count 72 = .ok (.aload_n 0, 1) := by decide +kernel
theorem dX5_count_73 : decode cX5_count 73 = .ok (.getfield 10, 3) := by decide +kernel
theorem dX5_count_76 : decode cX5_count 76 = .ok (.iconst 0, 1) := by decide +kernel
theorem dX5_count_77 : decode cX5_count 77 = .ok (.iconst (-1), 1) := by decide +kernel
theorem dX5_count_78 : decode cX5_count 78 = .ok (.invokevirtual 167, 3) := by decide +kernel
theorem dX5_count_81 : decode cX5_count 81 = .ok (.ireturn, 1) := by decide +kernel
theorem dX5_count_82 : decode cX5_count 82 = .ok (.aload_n 0, 1) := by decide +kernel
theorem dX5_count_83 : decode cX5_count 83 = .ok (.getfield 10, 3) := by decide +kernel
theorem dX5_count_86 : decode cX5_count 86 = .ok (.iconst 1, 1) := by decide +kernel
theorem dX5_count_87 : decode cX5_count 87 = .ok (.iconst (-1), 1) := by decide +kernel
theorem dX5_count_88 : decode cX5_count 88 = .ok (.invokevirtual 167, 3) := by decide +kernel
theorem dX5_count_91 : decode cX5_count 91 = .ok (.ireturn, 1) := by decide +kernel
theorem dX5_count_92 : decode cX5_count 92 = .ok (.aload_n 0, 1) := by decide +kernel
theorem dX5_count_93 : decode cX5_count 93 = .ok (.getfield 10, 3) := by decide +kernel
theorem dX5_count_96 : decode cX5_count 96 = .ok (.iconst 2, 1) := by decide +kernel
theorem dX5_count_97 : decode cX5_count 97 = .ok (.iconst (-1), 1) := by decide +kernel
theorem dX5_count_98 : decode cX5_count 98 = .ok (.invokevirtual 167, 3) := by decide +kernel
theorem dX5_count_101 : decode cX5_count 101 = .ok (.ireturn, 1) := by decide +kernel
theorem dX5_count_102 : decode cX5_count 102 = .ok (.aload_n 0, 1) := by decide +kernel
theorem dX5_count_103 : decode cX5_count 103 = .ok (.getfield 10, 3) := by decide +kernel
theorem dX5_count_106 : decode cX5_count 106 = .ok (.iconst (-1), 1) := by decide +kernel
theorem dX5_count_107 : decode cX5_count 107 = .ok (.invokevirtual 191, 3) := by decide +kernel
theorem dX5_count_110 : decode cX5_count 110 = .ok (.ireturn, 1) := by decide +kernel
theorem dX5_count_111 : decode cX5_count 111 = .ok (.aload_n 0, 1) := by decide +kernel
theorem dX5_count_112 : decode cX5_count 112 = .ok (.getfield 10, 3) := by decide +kernel
theorem dX5_count_115 : decode cX5_count 115 = .ok (.getfield 203, 3) := by decide +kernel
theorem dX5_count_118 : decode cX5_count 118 = .ok (.ireturn, 1) := by decide +kernel
theorem dX5_count_119 : decode cX5_count 119 = .ok (.aload_n 0, 1) := by decide +kernel
theorem dX5_count_120 : decode cX5_count 120 = .ok (.getfield 10, 3) := by decide +kernel
theorem dX5_count_123 : decode cX5_count 123 = .ok (.getfield 206, 3) := by decide +kernel
theorem dX5_count_126 : decode cX5_count 126 = .ok (.ireturn, 1) := by decide +kernel
theorem dX5_count_127 : decode cX5_count 127 = .ok (.aload_n 0, 1) := by decide +kernel
theorem dX5_count_128 : decode cX5_count 128 = .ok (.getfield 10, 3) := by decide +kernel
theorem dX5_count_131 : decode cX5_count 131 = .ok (.invokevirtual 209, 3) := by decide +kernel
theorem dX5_count_134 : decode cX5_count 134 = .ok (.ireturn, 1) := by decide +kernel
theorem dX5_count_135 : decode cX5_count 135 = .ok (.aload_n 0, 1) := by decide +kernel
theorem dX5_count_136 : decode cX5_count 136 = .ok (.getfield 10, 3) := by decide +kernel
theorem dX5_count_139 : decode cX5_count 139 = .ok (.invokevirtual 212, 3) := by decide +kernel
theorem dX5_count_142 : decode cX5_count 142 = .ok (.ireturn, 1) := by decide +kernel
theorem dX5_count_143 : decode cX5_count 143 = .ok (.aload_n 0, 1) := by decide +kernel
theorem dX5_count_144 : decode cX5_count 144 = .ok (.getfield 10, 3) := by decide +kernel
theorem dX5_count_147 : decode cX5_count 147 = .ok (.invokevirtual 215, 3) := by decide +kernel
theorem dX5_count_150 : decode cX5_count 150 = .ok (.ireturn, 1) := by decide +kernel
theorem dX5_count_151 : decode cX5_count 151 = .ok (.aload_n 0, 1) := by decide +kernel
theorem dX5_count_152 : decode cX5_count 152 = .ok (.getfield 25, 3) := by decide +kernel
theorem dX5_count_155 : decode cX5_count 155 = .ok (.getfield 218, 3) := by decide +kernel
theorem dX5_count_158 : decode cX5_count 158 = .ok (.ireturn, 1) := by decide +kernel
theorem dX5_count_159 : decode cX5_count 159 = .ok (.aload_n 0, 1) := by decide +kernel
theorem dX5_count_160 : decode cX5_count 160 = .ok (.getfield 32, 3) := by decide +kernel
theorem dX5_count_163 : decode cX5_count 163 = .ok (.getfield 138, 3) := by decide +kernel
theorem dX5_count_166 : decode cX5_count 166 = .ok (.ireturn, 1) := by decide +kernel
theorem dX5_count_167 : decode cX5_count 167 = .ok (.bipush (-2), 2) := by decide +kernel
theorem dX5_count_169 : decode cX5_count 169 = .ok (.ireturn, 1) := by decide +kernel
set_option maxRecDepth 20000 in
theorem ggX5_ifStruck_X4_strikeError : GoodIn wsX5_ifStruck wsX4_strikeError := goodIn_r _ [6, 7, 8, 9, 10, 11, 12, 5, 13, 14, 15, 16, 17, 18, 19, 20, 21, 22, 23, 24, 91, 92, 93, 94, 95, 96, 97, 98, 99, 100, 101, 102, 103] (by decide +kernel) (by decide +kernel)
set_option maxRecDepth 20000 in
theorem gX5_ifStruck_X4_strikeError : GoodIn wsX5_ifStruck (wsV RX5 78 RX4 yX4_strikeError wsX4_strikeError) := goodIn_app (goodIn_of _ (by decide +kernel)) ggX5_ifStruck_X4_strikeError
set_option maxRecDepth 20000 in
theorem ggX5_ifStruck_X5_tryHit : GoodIn wsX5_ifStruck wsX5_tryHit := goodIn_r _ [28, 29, 1, 30, 31, 32, 5, 33, 34, 35, 36, 37, 38, 39, 14, 40, 41, 42, 43, 44, 24, 45, 19, 46, 47, 48, 49, 50, 51, 52, 53, 54, 55, 56, 57, 58, 59, 60, 61, 62, 63, 64, 65, 66, 67, 68, 69, 70, 71, 72, 73, 74, 75, 76, 77, 78, 79, 80, 81, 82, 83, 84, 85, 86, 87, 88, 89, 90, 91, 92, 93, 94, 95, 96, 97, 98, 99, 100, 101, 102, 103] (by decide +kernel) (by decide +kernel)
set_option maxRecDepth 20000 in
theorem gX5_ifStruck_X5_tryHit : GoodIn wsX5_ifStruck (wsV RX5 221 RX5 yX5_tryHit wsX5_tryHit) := goodIn_app (goodIn_of _ (by decide +kernel)) ggX5_ifStruck_X5_tryHit
theorem dX5_ifStruck_0 : decode cX5_ifStruck 0 = .ok (.aload_n 0, 1) := by decide +kernel
theorem dX5_ifStruck_1 : decode cX5_ifStruck 1 = .ok (.getfield 10, 3) := by decide +kernel
theorem dX5_ifStruck_4 : decode cX5_ifStruck 4 = .ok (.iload_n 1, 1) := by decide +kernel
theorem dX5_ifStruck_5 : decode cX5_ifStruck 5 = .ok (.iload_n 2, 1) := by decide +kernel
theorem dX5_ifStruck_6 : decode cX5_ifStruck 6 = .ok (.iload_n 3, 1) := by decide +kernel
theorem dX5_ifStruck_7 : decode cX5_ifStruck 7 = .ok (.invokevirtual 78, 3) := by decide +kernel
theorem dX5_ifStruck_10 : decode cX5_ifStruck 10 = .ok (.istore 4, 2) := by decide +kernel
theorem dX5_ifStruck_12 : decode cX5_ifStruck 12 = .ok (.iload 4, 2) := by decide +kernel
theorem dX5_ifStruck_14 : decode cX5_ifStruck 14 = .ok (.ifCond .eq 6, 3) := by decide +kernel
theorem dX5_ifStruck_17 : decode cX5_ifStruck 17 = .ok (.iload 4, 2) := by decide +kernel
theorem dX5_ifStruck_19 : decode cX5_ifStruck 19 = .ok (.ireturn, 1) := by decide +kernel
theorem dX5_ifStruck_20 : decode cX5_ifStruck 20 = .ok (.aload_n 0, 1) := by decide +kernel
theorem dX5_ifStruck_21 : decode cX5_ifStruck 21 = .ok (.iload_n 1, 1) := by decide +kernel
theorem dX5_ifStruck_22 : decode cX5_ifStruck 22 = .ok (.iload_n 2, 1) := by decide +kernel
theorem dX5_ifStruck_23 : decode cX5_ifStruck 23 = .ok (.iload_n 3, 1) := by decide +kernel
theorem dX5_ifStruck_24 : decode cX5_ifStruck 24 = .ok (.invokevirtual 221, 3) := by decide +kernel
theorem dX5_ifStruck_27 : decode cX5_ifStruck 27 = .ok (.ireturn, 1) := by decide +kernel
set_option maxRecDepth 20000 in
theorem ggX5_leastSwing_X4_strikeError : GoodIn wsX5_leastSwing wsX4_strikeError := goodIn_r _ [6, 7, 8, 9, 10, 11, 12, 5, 13, 14, 15, 16, 17, 18, 19, 20, 21, 22, 23, 24, 91, 92, 93, 94, 95, 96, 97, 98, 99, 100, 101, 102, 103] (by decide +kernel) (by decide +kernel)
set_option maxRecDepth 20000 in
theorem gX5_leastSwing_X4_strikeError : GoodIn wsX5_leastSwing (wsV RX5 78 RX4 yX4_strikeError wsX4_strikeError) := goodIn_app (goodIn_of _ (by decide +kernel)) ggX5_leastSwing_X4_strikeError
set_option maxRecDepth 20000 in
theorem ggX5_leastSwing_X5_tryHit : GoodIn wsX5_leastSwing wsX5_tryHit := goodIn_r _ [28, 29, 1, 30, 31, 32, 5, 33, 34, 35, 36, 37, 38, 39, 14, 40, 41, 42, 43, 44, 24, 45, 19, 46, 47, 48, 49, 50, 51, 52, 53, 54, 55, 56, 57, 58, 59, 60, 61, 62, 63, 64, 65, 66, 67, 68, 69, 70, 71, 72, 73, 74, 75, 76, 77, 78, 79, 80, 81, 82, 83, 84, 85, 86, 87, 88, 89, 90, 91, 92, 93, 94, 95, 96, 97, 98, 99, 100, 101, 102, 103] (by decide +kernel) (by decide +kernel)
set_option maxRecDepth 20000 in
theorem gX5_leastSwing_X5_tryHit : GoodIn wsX5_leastSwing (wsV RX5 221 RX5 yX5_tryHit wsX5_tryHit) := goodIn_app (goodIn_of _ (by decide +kernel)) ggX5_leastSwing_X5_tryHit
theorem dX5_leastSwing_0 : decode cX5_leastSwing 0 = .ok (.aload_n 0, 1) := by decide +kernel
theorem dX5_leastSwing_1 : decode cX5_leastSwing 1 = .ok (.getfield 10, 3) := by decide +kernel
theorem dX5_leastSwing_4 : decode cX5_leastSwing 4 = .ok (.iload_n 1, 1) := by decide +kernel
theorem dX5_leastSwing_5 : decode cX5_leastSwing 5 = .ok (.iload_n 2, 1) := by decide +kernel
theorem dX5_leastSwing_6 : decode cX5_leastSwing 6 = .ok (.iconst 1, 1) := by decide +kernel
theorem dX5_leastSwing_7 : decode cX5_leastSwing 7 = .ok (.invokevirtual 78, 3) := by decide +kernel
theorem dX5_leastSwing_10 : decode cX5_leastSwing 10 = .ok (.istore_n 3, 1) := by decide +kernel
theorem dX5_leastSwing_11 : decode cX5_leastSwing 11 = .ok (.iload_n 3, 1) := by decide +kernel
theorem dX5_leastSwing_12 : decode cX5_leastSwing 12 = .ok (.ifCond .eq 5, 3) := by decide +kernel
theorem dX5_leastSwing_15 : decode cX5_leastSwing 15 = .ok (.iload_n 3, 1) := by decide +kernel
theorem dX5_leastSwing_16 : decode cX5_leastSwing 16 = .ok (.ireturn, 1) := by decide +kernel
theorem dX5_leastSwing_17 : decode cX5_leastSwing 17 = .ok (.iconst 1, 1) := by decide +kernel
theorem dX5_leastSwing_18 : decode cX5_leastSwing 18 = .ok (.istore 4, 2) := by decide +kernel
theorem dX5_leastSwing_20 : decode cX5_leastSwing 20 = .ok (.iload 4, 2) := by decide +kernel
theorem dX5_leastSwing_22 : decode cX5_leastSwing 22 = .ok (.bipush 9, 2) := by decide +kernel
theorem dX5_leastSwing_24 : decode cX5_leastSwing 24 = .ok (.if_icmp .gt 30, 3) := by decide +kernel
theorem dX5_leastSwing_27 : decode cX5_leastSwing 27 = .ok (.aload_n 0, 1) := by decide +kernel
theorem dX5_leastSwing_28 : decode cX5_leastSwing 28 = .ok (.iload_n 1, 1) := by decide +kernel
theorem dX5_leastSwing_29 : decode cX5_leastSwing 29 = .ok (.iload_n 2, 1) := by decide +kernel
theorem dX5_leastSwing_30 : decode cX5_leastSwing 30 = .ok (.iload 4, 2) := by decide +kernel
theorem dX5_leastSwing_32 : decode cX5_leastSwing 32 = .ok (.invokevirtual 221, 3) := by decide +kernel
theorem dX5_leastSwing_35 : decode cX5_leastSwing 35 = .ok (.iconst 3, 1) := by decide +kernel
theorem dX5_leastSwing_36 : decode cX5_leastSwing 36 = .ok (.iand, 1) := by decide +kernel
theorem dX5_leastSwing_37 : decode cX5_leastSwing 37 = .ok (.istore 5, 2) := by decide +kernel
theorem dX5_leastSwing_39 : decode cX5_leastSwing 39 = .ok (.iload 5, 2) := by decide +kernel
theorem dX5_leastSwing_41 : decode cX5_leastSwing 41 = .ok (.iconst 2, 1) := by decide +kernel
theorem dX5_leastSwing_42 : decode cX5_leastSwing 42 = .ok (.if_icmp .ne 6, 3) := by decide +kernel
theorem dX5_leastSwing_45 : decode cX5_leastSwing 45 = .ok (.iload 4, 2) := by decide +kernel
theorem dX5_leastSwing_47 : decode cX5_leastSwing 47 = .ok (.ireturn, 1) := by decide +kernel
theorem dX5_leastSwing_48 : decode cX5_leastSwing 48 = .ok (.iinc 4 1, 3) := by decide +kernel
theorem dX5_leastSwing_51 : decode cX5_leastSwing 51 = .ok (.goto (-31), 3) := by decide +kernel
theorem dX5_leastSwing_54 : decode cX5_leastSwing 54 = .ok (.bipush (-5), 2) := by decide +kernel
theorem dX5_leastSwing_56 : decode cX5_leastSwing 56 = .ok (.ireturn, 1) := by decide +kernel
set_option maxRecDepth 20000 in
theorem ggX5_winner_X4_boutError : GoodIn wsX5_winner wsX4_boutError := goodIn_r _ [9, 10, 11, 12, 13, 14, 15, 16, 8, 17, 18, 19, 20, 21, 22, 23, 24, 25, 26, 27, 28, 112, 113, 114, 115, 116, 117, 118, 119, 120, 121, 122, 123, 124] (by decide +kernel) (by decide +kernel)
set_option maxRecDepth 20000 in
theorem gX5_winner_X4_boutError : GoodIn wsX5_winner (wsV RX5 113 RX4 yX4_boutError wsX4_boutError) := goodIn_app (goodIn_of _ (by decide +kernel)) ggX5_winner_X4_boutError
set_option maxRecDepth 20000 in
theorem ggX5_winner_X4_copyFrom : GoodIn wsX5_winner wsX4_copyFrom := goodIn_r _ [32, 33, 34, 35, 36, 37, 38, 18, 39, 40, 41, 42, 43, 28, 44, 23, 45, 46, 112, 113, 114, 115, 116, 117, 118, 119, 120, 121, 122, 123, 124] (by decide +kernel) (by decide +kernel)
set_option maxRecDepth 20000 in
theorem gX5_winner_X4_copyFrom : GoodIn wsX5_winner (wsV RX5 164 RX4 yX4_copyFrom wsX4_copyFrom) := goodIn_app (goodIn_of _ (by decide +kernel)) ggX5_winner_X4_copyFrom
set_option maxRecDepth 20000 in
theorem ggX5_winner_X0_begin : GoodIn wsX5_winner wsX0_begin := goodIn_r _ [51, 52, 125] (by decide +kernel) (by decide +kernel)
set_option maxRecDepth 20000 in
theorem gX5_winner_X0_begin : GoodIn wsX5_winner (wsV RX5 116 RX0 yX0_begin wsX0_begin) := goodIn_app (goodIn_of _ (by decide +kernel)) ggX5_winner_X0_begin
set_option maxRecDepth 20000 in
theorem ggX5_winner_X4_fight : GoodIn wsX5_winner wsX4_fight := goodIn_r _ [56, 57, 58, 59, 60, 61, 62, 63, 24, 25, 26, 8, 27, 28, 64, 65, 66, 50, 67, 68, 69, 70, 71, 52, 72, 73, 74, 75, 76, 39, 46, 40, 41, 77, 78, 79, 80, 81, 82, 83, 84, 85, 86, 87, 45, 88, 89, 90, 91, 42, 43, 92, 93, 94, 95, 44, 96, 97, 98, 99, 100, 101, 102, 103, 112, 113, 114, 115, 116, 117, 118, 119, 120, 121, 122, 123, 124, 125] (by decide +kernel) (by decide +kernel)
set_option maxRecDepth 20000 in
theorem gX5_winner_X4_fight : GoodIn wsX5_winner (wsV RX5 120 RX4 yX4_fight wsX4_fight) := goodIn_app (goodIn_of _ (by decide +kernel)) ggX5_winner_X4_fight
theorem dX5_winner_0 : decode cX5_winner 0 = .ok (.aload_n 0, 1) := by decide +kernel
theorem dX5_winner_1 : decode cX5_winner 1 = .ok (.getfield 10, 3) := by decide +kernel
theorem dX5_winner_4 : decode cX5_winner 4 = .ok (.iload_n 1, 1) := by decide +kernel
theorem dX5_winner_5 : decode cX5_winner 5 = .ok (.iload_n 2, 1) := by decide +kernel
theorem dX5_winner_6 : decode cX5_winner 6 = .ok (.iload_n 3, 1) := by decide +kernel
theorem dX5_winner_7 : decode cX5_winner 7 = .ok (.invokevirtual 113, 3) := by decide +kernel
theorem dX5_winner_10 : decode cX5_winner 10 = .ok (.istore 4, 2) := by decide +kernel
theorem dX5_winner_12 : decode cX5_winner 12 = .ok (.iload 4, 2) := by decide +kernel
theorem dX5_winner_14 : decode cX5_winner 14 = .ok (.ifCond .eq 6, 3) := by decide +kernel
theorem dX5_winner_17 : decode cX5_winner 17 = .ok (.iload 4, 2) := by decide +kernel
theorem dX5_winner_19 : decode cX5_winner 19 = .ok (.ireturn, 1) := by decide +kernel
theorem dX5_winner_20 : decode cX5_winner 20 = .ok (.aload_n 0, 1) := by decide +kernel
theorem dX5_winner_21 : decode cX5_winner 21 = .ok (.getfield 19, 3) := by decide +kernel
theorem dX5_winner_24 : decode cX5_winner 24 = .ok (.aload_n 0, 1) := by decide +kernel
theorem dX5_winner_25 : decode cX5_winner 25 = .ok (.getfield 10, 3) := by decide +kernel
theorem dX5_winner_28 : decode cX5_winner 28 = .ok (.invokevirtual 164, 3) := by decide +kernel
theorem dX5_winner_31 : decode cX5_winner 31 = .ok (.aload_n 0, 1) := by decide +kernel
theorem dX5_winner_32 : decode cX5_winner 32 = .ok (.getfield 39, 3) := by decide +kernel
theorem dX5_winner_35 : decode cX5_winner 35 = .ok (.iload_n 3, 1) := by decide +kernel
theorem dX5_winner_36 : decode cX5_winner 36 = .ok (.invokevirtual 116, 3) := by decide +kernel
theorem dX5_winner_39 : decode cX5_winner 39 = .ok (.aload_n 0, 1) := by decide +kernel
theorem dX5_winner_40 : decode cX5_winner 40 = .ok (.getfield 19, 3) := by decide +kernel
theorem dX5_winner_43 : decode cX5_winner 43 = .ok (.iload_n 1, 1) := by decide +kernel
theorem dX5_winner_44 : decode cX5_winner 44 = .ok (.iload_n 2, 1) := by decide +kernel
theorem dX5_winner_45 : decode cX5_winner 45 = .ok (.aload_n 0, 1) := by decide +kernel
theorem dX5_winner_46 : decode cX5_winner 46 = .ok (.getfield 39, 3) := by decide +kernel
theorem dX5_winner_49 : decode cX5_winner 49 = .ok (.invokevirtual 120, 3) := by decide +kernel
theorem dX5_winner_52 : decode cX5_winner 52 = .ok (.pop, 1) := by decide +kernel
theorem dX5_winner_53 : decode cX5_winner 53 = .ok (.aload_n 0, 1) := by decide +kernel
theorem dX5_winner_54 : decode cX5_winner 54 = .ok (.getfield 19, 3) := by decide +kernel
theorem dX5_winner_57 : decode cX5_winner 57 = .ok (.getfield 101, 3) := by decide +kernel
theorem dX5_winner_60 : decode cX5_winner 60 = .ok (.iload_n 1, 1) := by decide +kernel
theorem dX5_winner_61 : decode cX5_winner 61 = .ok (.iaload, 1) := by decide +kernel
theorem dX5_winner_62 : decode cX5_winner 62 = .ok (.iconst 2, 1) := by decide +kernel
theorem dX5_winner_63 : decode cX5_winner 63 = .ok (.if_icmp .ne 7, 3) := by decide +kernel
theorem dX5_winner_66 : decode cX5_winner 66 = .ok (.iconst 1, 1) := by decide +kernel
theorem dX5_winner_67 : decode cX5_winner 67 = .ok (.goto 4, 3) := by decide +kernel
theorem dX5_winner_70 : decode cX5_winner 70 = .ok (.iconst 0, 1) := by decide +kernel
theorem dX5_winner_71 : decode cX5_winner 71 = .ok (.istore 5, 2) := by decide +kernel
theorem dX5_winner_73 : decode cX5_winner 73 = .ok (.aload_n 0, 1) := by decide +kernel
theorem dX5_winner_74 : decode cX5_winner 74 = .ok (.getfield 19, 3) := by decide +kernel
theorem dX5_winner_77 : decode cX5_winner 77 = .ok (.getfield 101, 3) := by decide +kernel
theorem dX5_winner_80 : decode cX5_winner 80 = .ok (.iload_n 2, 1) := by decide +kernel
theorem dX5_winner_81 : decode cX5_winner 81 = .ok (.iaload, 1) := by decide +kernel
theorem dX5_winner_82 : decode cX5_winner 82 = .ok (.iconst 2, 1) := by decide +kernel
theorem dX5_winner_83 : decode cX5_winner 83 = .ok (.if_icmp .ne 7, 3) := by decide +kernel
theorem dX5_winner_86 : decode cX5_winner 86 = .ok (.iconst 1, 1) := by decide +kernel
theorem dX5_winner_87 : decode cX5_winner 87 = .ok (.goto 4, 3) := by decide +kernel
theorem dX5_winner_90 : decode cX5_winner 90 = .ok (.iconst 0, 1) := by decide +kernel
theorem dX5_winner_91 : decode cX5_winner 91 = .ok (.istore 6, 2) := by decide +kernel
theorem dX5_winner_93 : decode cX5_winner 93 = .ok (.iload 5, 2) := by decide +kernel
theorem dX5_winner_95 : decode cX5_winner 95 = .ok (.iload 6, 2) := by decide +kernel
theorem dX5_winner_97 : decode cX5_winner 97 = .ok (.if_icmp .ne 6, 3) := by decide +kernel
theorem dX5_winner_100 : decode cX5_winner 100 = .ok (.bipush (-5), 2) := by decide +kernel
theorem dX5_winner_102 : decode cX5_winner 102 = .ok (.ireturn, 1) := by decide +kernel
theorem dX5_winner_103 : decode cX5_winner 103 = .ok (.iload 5, 2) := by decide +kernel
theorem dX5_winner_105 : decode cX5_winner 105 = .ok (.ifCond .eq 7, 3) := by decide +kernel
theorem dX5_winner_108 : decode cX5_winner 108 = .ok (.iload_n 2, 1) := by decide +kernel
theorem dX5_winner_109 : decode cX5_winner 109 = .ok (.goto 4, 3) := by decide +kernel
theorem dX5_winner_112 : decode cX5_winner 112 = .ok (.iload_n 1, 1) := by decide +kernel
theorem dX5_winner_113 : decode cX5_winner 113 = .ok (.ireturn, 1) := by decide +kernel
set_option maxRecDepth 20000 in
theorem ggX5_share_X4_victoriesOf : GoodIn wsX5_share wsX4_victoriesOf := goodIn_r _ [6, 7, 8, 9, 10, 11, 5, 12, 13, 29, 30, 31, 32, 33, 34, 35, 36, 37, 38, 39, 40, 41] (by decide +kernel) (by decide +kernel)
set_option maxRecDepth 20000 in
theorem gX5_share_X4_victoriesOf : GoodIn wsX5_share (wsV RX5 191 RX4 yX4_victoriesOf wsX4_victoriesOf) := goodIn_app (goodIn_of _ (by decide +kernel)) ggX5_share_X4_victoriesOf
set_option maxRecDepth 20000 in
theorem ggX5_share_X5_isPlayer : GoodIn wsX5_share wsX5_isPlayer := goodIn_r _ [17, 18, 19, 16, 20] (by decide +kernel) (by decide +kernel)
set_option maxRecDepth 20000 in
theorem gX5_share_X5_isPlayer : GoodIn wsX5_share (va_wsS RX5 54 yX5_isPlayer wsX5_isPlayer) := goodIn_app (goodIn_of _ (by decide +kernel)) ggX5_share_X5_isPlayer
theorem dX5_share_0 : decode cX5_share 0 = .ok (.aload_n 0, 1) := by decide +kernel
theorem dX5_share_1 : decode cX5_share 1 = .ok (.getfield 10, 3) := by decide +kernel
theorem dX5_share_4 : decode cX5_share 4 = .ok (.iconst (-1), 1) := by decide +kernel
theorem dX5_share_5 : decode cX5_share 5 = .ok (.invokevirtual 191, 3) := by decide +kernel
theorem dX5_share_8 : decode cX5_share 8 = .ok (.istore_n 2, 1) := by decide +kernel
theorem dX5_share_9 : decode cX5_share 9 = .ok (.iload_n 1, 1) := by decide +kernel
theorem dX5_share_10 : decode cX5_share 10 = .ok (.invokestatic 54, 3) := by decide +kernel
theorem dX5_share_13 : decode cX5_share 13 = .ok (.ifCond .eq 8, 3) := by decide +kernel
theorem dX5_share_16 : decode cX5_share 16 = .ok (.iload_n 2, 1) := by decide +kernel
theorem dX5_share_17 : decode cX5_share 17 = .ok (.iconst 1, 1) := by decide +kernel
theorem dX5_share_18 : decode cX5_share 18 = .ok (.if_icmp .ge 5, 3) := by decide +kernel
theorem dX5_share_21 : decode cX5_share 21 = .ok (.fconst 0, 1) := by decide +kernel
theorem dX5_share_22 : decode cX5_share 22 = .ok (.freturn, 1) := by decide +kernel
theorem dX5_share_23 : decode cX5_share 23 = .ok (.aload_n 0, 1) := by decide +kernel
theorem dX5_share_24 : decode cX5_share 24 = .ok (.getfield 10, 3) := by decide +kernel
theorem dX5_share_27 : decode cX5_share 27 = .ok (.iload_n 1, 1) := by decide +kernel
theorem dX5_share_28 : decode cX5_share 28 = .ok (.invokevirtual 191, 3) := by decide +kernel
theorem dX5_share_31 : decode cX5_share 31 = .ok (.i2f, 1) := by decide +kernel
theorem dX5_share_32 : decode cX5_share 32 = .ok (.iload_n 2, 1) := by decide +kernel
theorem dX5_share_33 : decode cX5_share 33 = .ok (.i2f, 1) := by decide +kernel
theorem dX5_share_34 : decode cX5_share 34 = .ok (.fdiv, 1) := by decide +kernel
theorem dX5_share_35 : decode cX5_share 35 = .ok (.freturn, 1) := by decide +kernel
theorem dX5_isWithin_0 : decode cX5_isWithin 0 = .ok (.iload_n 0, 1) := by decide +kernel
theorem dX5_isWithin_1 : decode cX5_isWithin 1 = .ok (.iload_n 1, 1) := by decide +kernel
theorem dX5_isWithin_2 : decode cX5_isWithin 2 = .ok (.if_icmp .lt 12, 3) := by decide +kernel
theorem dX5_isWithin_5 : decode cX5_isWithin 5 = .ok (.iload_n 0, 1) := by decide +kernel
theorem dX5_isWithin_6 : decode cX5_isWithin 6 = .ok (.iload_n 2, 1) := by decide +kernel
theorem dX5_isWithin_7 : decode cX5_isWithin 7 = .ok (.if_icmp .gt 7, 3) := by decide +kernel
theorem dX5_isWithin_10 : decode cX5_isWithin 10 = .ok (.iconst 1, 1) := by decide +kernel
theorem dX5_isWithin_11 : decode cX5_isWithin 11 = .ok (.goto 4, 3) := by decide +kernel
theorem dX5_isWithin_14 : decode cX5_isWithin 14 = .ok (.iconst 0, 1) := by decide +kernel
theorem dX5_isWithin_15 : decode cX5_isWithin 15 = .ok (.ireturn, 1) := by decide +kernel
set_option maxRecDepth 20000 in
theorem ggX5_isPlayer_X5_isWithin : GoodIn wsX5_isPlayer wsX5_isWithin := goodIn_r _ [4] (by decide +kernel) (by decide +kernel)
set_option maxRecDepth 20000 in
theorem gX5_isPlayer_X5_isWithin : GoodIn wsX5_isPlayer (va_wsS RX5 58 yX5_isWithin wsX5_isWithin) := goodIn_app (goodIn_of _ (by decide +kernel)) ggX5_isPlayer_X5_isWithin
theorem dX5_isPlayer_0 : decode cX5_isPlayer 0 = .ok (.iload_n 0, 1) := by decide +kernel
theorem dX5_isPlayer_1 : decode cX5_isPlayer 1 = .ok (.iconst 0, 1) := by decide +kernel
theorem dX5_isPlayer_2 : decode cX5_isPlayer 2 = .ok (.iconst 5, 1) := by decide +kernel
theorem dX5_isPlayer_3 : decode cX5_isPlayer 3 = .ok (.invokestatic 58, 3) := by decide +kernel
theorem dX5_isPlayer_6 : decode cX5_isPlayer 6 = .ok (.ireturn, 1) := by decide +kernel
set_option maxRecDepth 20000 in
theorem ggX5_tryHit_X4_copyFrom : GoodIn wsX5_tryHit wsX4_copyFrom := goodIn_r _ [7, 8, 9, 10, 11, 12, 13, 14, 15, 16, 17, 18, 19, 20, 21, 22, 23, 24, 68, 69, 70, 71, 72, 73, 74, 75, 76, 77, 78, 79, 80] (by decide +kernel) (by decide +kernel)
set_option maxRecDepth 20000 in
theorem gX5_tryHit_X4_copyFrom : GoodIn wsX5_tryHit (wsV RX5 164 RX4 yX4_copyFrom wsX4_copyFrom) := goodIn_app (goodIn_of _ (by decide +kernel)) ggX5_tryHit_X4_copyFrom
set_option maxRecDepth 20000 in
theorem ggX5_tryHit_X4_hit : GoodIn wsX5_tryHit wsX4_hit := goodIn_r _ [28, 15, 24, 16, 29, 30, 31, 32, 17, 33, 34, 6, 35, 36, 37, 38, 39, 40, 41, 42, 43, 23, 44, 45, 46, 47, 18, 19, 20, 48, 49, 50, 51, 21, 52, 53, 54, 55, 56, 57, 58, 59, 68, 69, 70, 71, 72, 73, 74, 75, 76, 77, 78, 79, 80] (by decide +kernel) (by decide +kernel)
set_option maxRecDepth 20000 in
theorem gX5_tryHit_X4_hit : GoodIn wsX5_tryHit (wsV RX5 82 RX4 yX4_hit wsX4_hit) := goodIn_app (goodIn_of _ (by decide +kernel)) ggX5_tryHit_X4_hit
theorem dX5_tryHit_0 : decode cX5_tryHit 0 = .ok (.aload_n 0, 1) := by decide +kernel
theorem dX5_tryHit_1 : decode cX5_tryHit 1 = .ok (.getfield 19, 3) := by decide +kernel
theorem dX5_tryHit_4 : decode cX5_tryHit 4 = .ok (.aload_n 0, 1) := by decide +kernel
theorem dX5_tryHit_5 : decode cX5_tryHit 5 = .ok (.getfield 10, 3) := by decide +kernel
theorem dX5_tryHit_8 : decode cX5_tryHit 8 = .ok (.invokevirtual 164, 3) := by decide +kernel
theorem dX5_tryHit_11 : decode cX5_tryHit 11 = .ok (.aload_n 0, 1) := by decide +kernel
theorem dX5_tryHit_12 : decode cX5_tryHit 12 = .ok (.getfield 19, 3) := by decide +kernel
theorem dX5_tryHit_15 : decode cX5_tryHit 15 = .ok (.iload_n 1, 1) := by decide +kernel
theorem dX5_tryHit_16 : decode cX5_tryHit 16 = .ok (.iload_n 2, 1) := by decide +kernel
theorem dX5_tryHit_17 : decode cX5_tryHit 17 = .ok (.iload_n 3, 1) := by decide +kernel
theorem dX5_tryHit_18 : decode cX5_tryHit 18 = .ok (.invokevirtual 82, 3) := by decide +kernel
theorem dX5_tryHit_21 : decode cX5_tryHit 21 = .ok (.ireturn, 1) := by decide +kernel
set_option maxRecDepth 20000 in
theorem ggX5_carryOutOrder_X4_mendError : GoodIn wsX5_carryOutOrder wsX4_mendError := goodIn_r _ [11, 12, 13, 14, 15, 16, 10, 17, 18, 19, 20, 21, 22, 23, 24, 25, 26, 103, 104, 105, 106, 107, 108, 109, 110, 111, 112, 113, 114, 115] (by decide +kernel) (by decide +kernel)
set_option maxRecDepth 20000 in
theorem gX5_carryOutOrder_X4_mendError : GoodIn wsX5_carryOutOrder (wsV RX5 85 RX4 yX4_mendError wsX4_mendError) := goodIn_app (goodIn_of _ (by decide +kernel)) ggX5_carryOutOrder_X4_mendError
set_option maxRecDepth 20000 in
theorem ggX5_carryOutOrder_X4_threadAgain : GoodIn wsX5_carryOutOrder wsX4_threadAgain := goodIn_r _ [30, 13, 12, 31, 18, 103, 104, 105, 106, 107, 108, 109, 110, 111, 112, 113, 114, 115] (by decide +kernel) (by decide +kernel)
set_option maxRecDepth 20000 in
theorem gX5_carryOutOrder_X4_threadAgain : GoodIn wsX5_carryOutOrder (wsV RX5 89 RX4 yX4_threadAgain wsX4_threadAgain) := goodIn_app (goodIn_of _ (by decide +kernel)) ggX5_carryOutOrder_X4_threadAgain
set_option maxRecDepth 20000 in
theorem ggX5_carryOutOrder_X4_fallenError : GoodIn wsX5_carryOutOrder wsX4_fallenError := goodIn_r _ [17, 18, 19, 20, 21, 10, 22, 23, 24, 25, 26, 103, 104, 105, 106, 107, 108, 109, 110, 111, 112, 113, 114, 115] (by decide +kernel) (by decide +kernel)
set_option maxRecDepth 20000 in
theorem gX5_carryOutOrder_X4_fallenError : GoodIn wsX5_carryOutOrder (wsV RX5 92 RX4 yX4_fallenError wsX4_fallenError) := goodIn_app (goodIn_of _ (by decide +kernel)) ggX5_carryOutOrder_X4_fallenError
set_option maxRecDepth 20000 in
theorem ggX5_carryOutOrder_X4_crush : GoodIn wsX5_carryOutOrder wsX4_crush := goodIn_r _ [36, 37, 38, 39, 40, 10, 41, 42, 43, 18, 103, 104, 105, 106, 107, 108, 109, 110, 111, 112, 113, 114, 115] (by decide +kernel) (by decide +kernel)
set_option maxRecDepth 20000 in
theorem gX5_carryOutOrder_X4_crush : GoodIn wsX5_carryOutOrder (wsV RX5 95 RX4 yX4_crush wsX4_crush) := goodIn_app (goodIn_of _ (by decide +kernel)) ggX5_carryOutOrder_X4_crush
set_option maxRecDepth 20000 in
theorem ggX5_carryOutOrder_X4_strikeError : GoodIn wsX5_carryOutOrder wsX4_strikeError := goodIn_r _ [47, 24, 25, 26, 48, 49, 50, 10, 51, 13, 19, 20, 21, 22, 23, 52, 53, 54, 55, 18, 103, 104, 105, 106, 107, 108, 109, 110, 111, 112, 113, 114, 115] (by decide +kernel) (by decide +kernel)
set_option maxRecDepth 20000 in
theorem gX5_carryOutOrder_X4_strikeError : GoodIn wsX5_carryOutOrder (wsV RX5 78 RX4 yX4_strikeError wsX4_strikeError) := goodIn_app (goodIn_of _ (by decide +kernel)) ggX5_carryOutOrder_X4_strikeError
set_option maxRecDepth 20000 in
theorem ggX5_carryOutOrder_X4_hit : GoodIn wsX5_carryOutOrder wsX4_hit := goodIn_r _ [59, 60, 61, 62, 63, 64, 65, 66, 31, 67, 68, 10, 69, 70, 71, 72, 73, 74, 34, 35, 36, 37, 38, 39, 40, 41, 42, 43, 18, 75, 76, 77, 78, 79, 80, 81, 82, 83, 84, 85, 86, 87, 103, 104, 105, 106, 107, 108, 109, 110, 111, 112, 113, 114, 115] (by decide +kernel) (by decide +kernel)
set_option maxRecDepth 20000 in
theorem gX5_carryOutOrder_X4_hit : GoodIn wsX5_carryOutOrder (wsV RX5 82 RX4 yX4_hit wsX4_hit) := goodIn_app (goodIn_of _ (by decide +kernel)) ggX5_carryOutOrder_X4_hit
theorem dX5_carryOutOrder_0 : decode cX5_carryOutOrder 0 = .ok (.aload_n 0, 1) := by decide +kernel
theorem dX5_carryOutOrder_1 : decode cX5_carryOutOrder 1 = .ok (.getfield 32, 3) := by decide +kernel
theorem dX5_carryOutOrder_4 : decode cX5_carryOutOrder 4 = .ok (.getfield 224, 3) := by decide +kernel
theorem dX5_carryOutOrder_7 : decode cX5_carryOutOrder 7 = .ok (.lookupswitch 101 #[(115, 63), (116, 25)], 25) := by decide +kernel
theorem dX5_carryOutOrder_32 : decode cX5_carryOutOrder 32 = .ok (.aload_n 0, 1) := by decide +kernel
theorem dX5_carryOutOrder_33 : decode cX5_carryOutOrder 33 = .ok (.getfield 10, 3) := by decide +kernel
theorem dX5_carryOutOrder_36 : decode cX5_carryOutOrder 36 = .ok (.aload_n 0, 1) := by decide +kernel
theorem dX5_carryOutOrder_37 : decode cX5_carryOutOrder 37 = .ok (.getfield 32, 3) := by decide +kernel
theorem dX5_carryOutOrder_40 : decode cX5_carryOutOrder 40 = .ok (.getfield 228, 3) := by decide +kernel
theorem dX5_carryOutOrder_43 : decode cX5_carryOutOrder 43 = .ok (.invokevirtual 85, 3) := by decide +kernel
theorem dX5_carryOutOrder_46 : decode cX5_carryOutOrder 46 = .ok (.istore_n 1, 1) := by decide +kernel
theorem dX5_carryOutOrder_47 : decode cX5_carryOutOrder 47 = .ok (.iload_n 1, 1) := by decide +kernel
theorem dX5_carryOutOrder_48 : decode cX5_carryOutOrder 48 = .ok (.ifCond .eq 7, 3) := by decide +kernel
theorem dX5_carryOutOrder_51 : decode cX5_carryOutOrder 51 = .ok (.iload_n 1, 1) := by decide +kernel
theorem dX5_carryOutOrder_52 : decode cX5_carryOutOrder 52 = .ok (.goto 17, 3) := by decide +kernel
theorem dX5_carryOutOrder_55 : decode cX5_carryOutOrder 55 = .ok (.aload_n 0, 1) := by decide +kernel
theorem dX5_carryOutOrder_56 : decode cX5_carryOutOrder 56 = .ok (.getfield 10, 3) := by decide +kernel
theorem dX5_carryOutOrder_59 : decode cX5_carryOutOrder 59 = .ok (.aload_n 0, 1) := by decide +kernel
theorem dX5_carryOutOrder_60 : decode cX5_carryOutOrder 60 = .ok (.getfield 32, 3) := by decide +kernel
theorem dX5_carryOutOrder_63 : decode cX5_carryOutOrder 63 = .ok (.getfield 228, 3) := by decide +kernel
theorem dX5_carryOutOrder_66 : decode cX5_carryOutOrder 66 = .ok (.invokevirtual 89, 3) := by decide +kernel
theorem dX5_carryOutOrder_69 : decode cX5_carryOutOrder 69 = .ok (.ireturn, 1) := by decide +kernel
theorem dX5_carryOutOrder_70 : decode cX5_carryOutOrder 70 = .ok (.aload_n 0, 1) := by decide +kernel
theorem dX5_carryOutOrder_71 : decode cX5_carryOutOrder 71 = .ok (.getfield 10, 3) := by decide +kernel
theorem dX5_carryOutOrder_74 : decode cX5_carryOutOrder 74 = .ok (.aload_n 0, 1) := by decide +kernel
theorem dX5_carryOutOrder_75 : decode cX5_carryOutOrder 75 = .ok (.getfield 32, 3) := by decide +kernel
theorem dX5_carryOutOrder_78 : decode cX5_carryOutOrder 78 = .ok (.getfield 228, 3) := by decide +kernel
theorem dX5_carryOutOrder_81 : decode cX5_carryOutOrder 81 = .ok (.invokevirtual 92, 3) := by decide +kernel
theorem dX5_carryOutOrder_84 : decode cX5_carryOutOrder 84 = .ok (.istore_n 1, 1) := by decide +kernel
theorem dX5_carryOutOrder_85 : decode cX5_carryOutOrder 85 = .ok (.iload_n 1, 1) := by decide +kernel
theorem dX5_carryOutOrder_86 : decode cX5_carryOutOrder 86 = .ok (.ifCond .eq 7, 3) := by decide +kernel
theorem dX5_carryOutOrder_89 : decode cX5_carryOutOrder 89 = .ok (.iload_n 1, 1) := by decide +kernel
theorem dX5_carryOutOrder_90 : decode cX5_carryOutOrder 90 = .ok (.goto 17, 3) := by decide +kernel
theorem dX5_carryOutOrder_93 : decode cX5_carryOutOrder 93 = .ok (.aload_n 0, 1) := by decide +kernel
theorem dX5_carryOutOrder_94 : decode cX5_carryOutOrder 94 = .ok (.getfield 10, 3) := by decide +kernel
