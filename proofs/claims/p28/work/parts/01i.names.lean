theorem dL_hangs_379 : decode cL_hangs 379 = .ok (.iload 4, 2) := by decide +kernel
theorem dL_hangs_381 : decode cL_hangs 381 = .ok (.iconst 5, 1) := by decide +kernel
theorem dL_hangs_382 : decode cL_hangs 382 = .ok (.invokevirtual 60, 3) := by decide +kernel
theorem dL_hangs_385 : decode cL_hangs 385 = .ok (.i2f, 1) := by decide +kernel
theorem dL_hangs_386 : decode cL_hangs 386 = .ok (.aload_n 0, 1) := by decide +kernel
theorem dL_hangs_387 : decode cL_hangs 387 = .ok (.iconst 4, 1) := by decide +kernel
theorem dL_hangs_388 : decode cL_hangs 388 = .ok (.invokevirtual 48, 3) := by decide +kernel
theorem dL_hangs_391 : decode cL_hangs 391 = .ok (.i2f, 1) := by decide +kernel
theorem dL_hangs_392 : decode cL_hangs 392 = .ok (.fdiv, 1) := by decide +kernel
theorem dL_hangs_393 : decode cL_hangs 393 = .ok (.fcmp .l, 1) := by decide +kernel
theorem dL_hangs_394 : decode cL_hangs 394 = .ok (.ifCond .eq 5, 3) := by decide +kernel
theorem dL_hangs_397 : decode cL_hangs 397 = .ok (.iconst 0, 1) := by decide +kernel
theorem dL_hangs_398 : decode cL_hangs 398 = .ok (.ireturn, 1) := by decide +kernel
theorem dL_hangs_399 : decode cL_hangs 399 = .ok (.iinc 4 1, 3) := by decide +kernel
theorem dL_hangs_402 : decode cL_hangs 402 = .ok (.goto (-299), 3) := by decide +kernel
theorem dL_hangs_405 : decode cL_hangs 405 = .ok (.aload_n 0, 1) := by decide +kernel
theorem dL_hangs_406 : decode cL_hangs 406 = .ok (.iload_n 1, 1) := by decide +kernel
theorem dL_hangs_407 : decode cL_hangs 407 = .ok (.invokevirtual 57, 3) := by decide +kernel
theorem dL_hangs_410 : decode cL_hangs 410 = .ok (.bipush (-5), 2) := by decide +kernel
theorem dL_hangs_412 : decode cL_hangs 412 = .ok (.if_icmp .ne 23, 3) := by decide +kernel
theorem dL_hangs_415 : decode cL_hangs 415 = .ok (.iload_n 3, 1) := by decide +kernel
theorem dL_hangs_416 : decode cL_hangs 416 = .ok (.aload_n 0, 1) := by decide +kernel
theorem dL_hangs_417 : decode cL_hangs 417 = .ok (.iconst 4, 1) := by decide +kernel
theorem dL_hangs_418 : decode cL_hangs 418 = .ok (.invokevirtual 48, 3) := by decide +kernel
theorem dL_hangs_421 : decode cL_hangs 421 = .ok (.if_icmp .ne 14, 3) := by decide +kernel
theorem dL_hangs_424 : decode cL_hangs 424 = .ok (.aload_n 0, 1) := by decide +kernel
theorem dL_hangs_425 : decode cL_hangs 425 = .ok (.invokestatic 67, 3) := by decide +kernel
theorem dL_hangs_428 : decode cL_hangs 428 = .ok (.ifCond .eq 7, 3) := by decide +kernel
theorem dL_hangs_431 : decode cL_hangs 431 = .ok (.iconst 1, 1) := by decide +kernel
theorem dL_hangs_432 : decode cL_hangs 432 = .ok (.goto 4, 3) := by decide +kernel
theorem dL_hangs_435 : decode cL_hangs 435 = .ok (.iconst 0, 1) := by decide +kernel
theorem dL_hangs_436 : decode cL_hangs 436 = .ok (.ireturn, 1) := by decide +kernel
set_option maxRecDepth 20000 in
theorem ggL_print_X5_count : GoodIn wsL_print wsX5_count := goodIn_r _ [7, 8, 9, 10, 11, 12, 13, 14, 15, 16, 17, 18, 19, 20, 21, 22, 23, 24, 25, 26, 27, 28, 29, 30, 31, 32, 33, 34, 35, 36, 37, 38, 39, 40, 41, 42, 43, 44, 45, 46, 47, 48, 49, 50, 84, 85, 86, 87, 88, 89, 90, 91, 92, 93, 94, 95, 96, 97, 98, 99, 100, 101, 102, 103, 104, 105, 106, 107, 108, 109, 110, 111, 112, 113] (by decide +kernel) (by decide +kernel)
set_option maxRecDepth 20000 in
theorem gL_print_X5_count : GoodIn wsL_print (wsV RL 48 RX5 yX5_count wsX5_count) := goodIn_app (goodIn_of _ (by decide +kernel)) ggL_print_X5_count
set_option maxRecDepth 20000 in
theorem ggL_print_X5_conker : GoodIn wsL_print wsX5_conker := goodIn_r _ [54, 8, 55, 56, 57, 58, 59, 60, 61, 62, 63, 64, 65, 19, 66, 21, 67, 6, 68, 69, 38, 39, 40, 41, 84, 85, 86, 87, 88, 89, 90, 91, 92, 93, 94, 95, 96, 97, 98, 99, 100, 101, 102, 103, 104] (by decide +kernel) (by decide +kernel)
set_option maxRecDepth 20000 in
theorem gL_print_X5_conker : GoodIn wsL_print (wsV RL 51 RX5 yX5_conker wsX5_conker) := goodIn_app (goodIn_of _ (by decide +kernel)) ggL_print_X5_conker
set_option maxRecDepth 20000 in
theorem ggL_print_X5_player : GoodIn wsL_print wsX5_player := goodIn_r _ [73, 8, 74, 75, 76, 77, 6, 78, 79, 67, 68, 16, 17, 18, 19, 20, 21, 22, 23, 24, 25, 26, 27, 28, 29, 30, 31, 32, 80, 81, 82, 83, 84, 85, 86, 87, 88, 89, 90, 91, 92, 93, 94, 95, 96, 97, 98, 99, 100, 101, 102, 103, 104] (by decide +kernel) (by decide +kernel)
set_option maxRecDepth 20000 in
theorem gL_print_X5_player : GoodIn wsL_print (wsV RL 60 RX5 yX5_player wsX5_player) := goodIn_app (goodIn_of _ (by decide +kernel)) ggL_print_X5_player
theorem dL_print_0 : decode cL_print 0 = .ok (.ldc2_w 71, 3) := by decide +kernel
theorem dL_print_3 : decode cL_print 3 = .ok (.lstore_n 1, 1) := by decide +kernel
theorem dL_print_4 : decode cL_print 4 = .ok (.iconst 0, 1) := by decide +kernel
theorem dL_print_5 : decode cL_print 5 = .ok (.istore_n 3, 1) := by decide +kernel
theorem dL_print_6 : decode cL_print 6 = .ok (.iload_n 3, 1) := by decide +kernel
theorem dL_print_7 : decode cL_print 7 = .ok (.bipush 10, 2) := by decide +kernel
theorem dL_print_9 : decode cL_print 9 = .ok (.if_icmp .ge 22, 3) := by decide +kernel
theorem dL_print_12 : decode cL_print 12 = .ok (.ldc2_w 73, 3) := by decide +kernel
theorem dL_print_15 : decode cL_print 15 = .ok (.lload_n 1, 1) := by decide +kernel
theorem dL_print_16 : decode cL_print 16 = .ok (.lmul, 1) := by decide +kernel
theorem dL_print_17 : decode cL_print 17 = .ok (.aload_n 0, 1) := by decide +kernel
theorem dL_print_18 : decode cL_print 18 = .ok (.iload_n 3, 1) := by decide +kernel
theorem dL_print_19 : decode cL_print 19 = .ok (.invokevirtual 48, 3) := by decide +kernel
theorem dL_print_22 : decode cL_print 22 = .ok (.i2l, 1) := by decide +kernel
theorem dL_print_23 : decode cL_print 23 = .ok (.ladd, 1) := by decide +kernel
theorem dL_print_24 : decode cL_print 24 = .ok (.lstore_n 1, 1) := by decide +kernel
theorem dL_print_25 : decode cL_print 25 = .ok (.iinc 3 1, 3) := by decide +kernel
theorem dL_print_28 : decode cL_print 28 = .ok (.goto (-22), 3) := by decide +kernel
theorem dL_print_31 : decode cL_print 31 = .ok (.iconst 0, 1) := by decide +kernel
theorem dL_print_32 : decode cL_print 32 = .ok (.istore_n 3, 1) := by decide +kernel
theorem dL_print_33 : decode cL_print 33 = .ok (.iload_n 3, 1) := by decide +kernel
theorem dL_print_34 : decode cL_print 34 = .ok (.bipush 9, 2) := by decide +kernel
theorem dL_print_36 : decode cL_print 36 = .ok (.aload_n 0, 1) := by decide +kernel
theorem dL_print_37 : decode cL_print 37 = .ok (.iconst 0, 1) := by decide +kernel
theorem dL_print_38 : decode cL_print 38 = .ok (.invokevirtual 48, 3) := by decide +kernel
theorem dL_print_41 : decode cL_print 41 = .ok (.imul, 1) := by decide +kernel
theorem dL_print_42 : decode cL_print 42 = .ok (.if_icmp .ge 29, 3) := by decide +kernel
theorem dL_print_45 : decode cL_print 45 = .ok (.ldc2_w 73, 3) := by decide +kernel
theorem dL_print_48 : decode cL_print 48 = .ok (.lload_n 1, 1) := by decide +kernel
theorem dL_print_49 : decode cL_print 49 = .ok (.lmul, 1) := by decide +kernel
theorem dL_print_50 : decode cL_print 50 = .ok (.aload_n 0, 1) := by decide +kernel
theorem dL_print_51 : decode cL_print 51 = .ok (.iload_n 3, 1) := by decide +kernel
theorem dL_print_52 : decode cL_print 52 = .ok (.bipush 9, 2) := by decide +kernel
theorem dL_print_54 : decode cL_print 54 = .ok (.idiv, 1) := by decide +kernel
theorem dL_print_55 : decode cL_print 55 = .ok (.iload_n 3, 1) := by decide +kernel
theorem dL_print_56 : decode cL_print 56 = .ok (.bipush 9, 2) := by decide +kernel
theorem dL_print_58 : decode cL_print 58 = .ok (.irem, 1) := by decide +kernel
theorem dL_print_59 : decode cL_print 59 = .ok (.invokevirtual 51, 3) := by decide +kernel
theorem dL_print_62 : decode cL_print 62 = .ok (.i2l, 1) := by decide +kernel
theorem dL_print_63 : decode cL_print 63 = .ok (.ladd, 1) := by decide +kernel
theorem dL_print_64 : decode cL_print 64 = .ok (.lstore_n 1, 1) := by decide +kernel
theorem dL_print_65 : decode cL_print 65 = .ok (.iinc 3 1, 3) := by decide +kernel
theorem dL_print_68 : decode cL_print 68 = .ok (.goto (-35), 3) := by decide +kernel
theorem dL_print_71 : decode cL_print 71 = .ok (.iconst 0, 1) := by decide +kernel
theorem dL_print_72 : decode cL_print 72 = .ok (.istore_n 3, 1) := by decide +kernel
theorem dL_print_73 : decode cL_print 73 = .ok (.iload_n 3, 1) := by decide +kernel
theorem dL_print_74 : decode cL_print 74 = .ok (.bipush 12, 2) := by decide +kernel
theorem dL_print_76 : decode cL_print 76 = .ok (.if_icmp .ge 27, 3) := by decide +kernel
theorem dL_print_79 : decode cL_print 79 = .ok (.ldc2_w 73, 3) := by decide +kernel
theorem dL_print_82 : decode cL_print 82 = .ok (.lload_n 1, 1) := by decide +kernel
theorem dL_print_83 : decode cL_print 83 = .ok (.lmul, 1) := by decide +kernel
theorem dL_print_84 : decode cL_print 84 = .ok (.aload_n 0, 1) := by decide +kernel
theorem dL_print_85 : decode cL_print 85 = .ok (.iload_n 3, 1) := by decide +kernel
theorem dL_print_86 : decode cL_print 86 = .ok (.iconst 2, 1) := by decide +kernel
theorem dL_print_87 : decode cL_print 87 = .ok (.idiv, 1) := by decide +kernel
theorem dL_print_88 : decode cL_print 88 = .ok (.iload_n 3, 1) := by decide +kernel
theorem dL_print_89 : decode cL_print 89 = .ok (.iconst 2, 1) := by decide +kernel
theorem dL_print_90 : decode cL_print 90 = .ok (.irem, 1) := by decide +kernel
theorem dL_print_91 : decode cL_print 91 = .ok (.invokevirtual 60, 3) := by decide +kernel
theorem dL_print_94 : decode cL_print 94 = .ok (.i2l, 1) := by decide +kernel
theorem dL_print_95 : decode cL_print 95 = .ok (.ladd, 1) := by decide +kernel
theorem dL_print_96 : decode cL_print 96 = .ok (.lstore_n 1, 1) := by decide +kernel
theorem dL_print_97 : decode cL_print 97 = .ok (.iinc 3 1, 3) := by decide +kernel
theorem dL_print_100 : decode cL_print 100 = .ok (.goto (-27), 3) := by decide +kernel
theorem dL_print_103 : decode cL_print 103 = .ok (.lload_n 1, 1) := by decide +kernel
theorem dL_print_104 : decode cL_print 104 = .ok (.lreturn, 1) := by decide +kernel
set_option maxRecDepth 20000 in
theorem ggL_strikes_X5_ifStruck : GoodIn wsL_strikes wsX5_ifStruck := goodIn_r _ [5, 6, 7, 8, 9, 10, 11, 12, 4, 13, 14, 15, 16, 17, 18, 19, 20, 21, 22, 23, 24, 25, 26, 27, 28, 29, 30, 31, 32, 33, 34, 35, 36, 37, 38, 39, 40, 41, 42, 43, 44, 45, 46, 47, 48, 49, 50, 51, 52, 53, 54, 55, 56, 57, 58, 59, 60, 61, 62, 63, 64, 65, 66, 67, 68, 69, 70, 71, 72, 73, 74, 75, 76, 77, 78, 79, 80, 81, 82, 83, 84, 85, 86, 204, 205, 206, 207, 208, 209, 210, 211, 212, 213, 214, 215, 216, 217, 218, 219, 220, 221, 222, 223, 224] (by decide +kernel) (by decide +kernel)
set_option maxRecDepth 20000 in
theorem gL_strikes_X5_ifStruck : GoodIn wsL_strikes (wsV RL 75 RX5 yX5_ifStruck wsX5_ifStruck) := goodIn_app (goodIn_of _ (by decide +kernel)) ggL_strikes_X5_ifStruck
set_option maxRecDepth 20000 in
theorem ggL_strikes_X5_leastSwing : GoodIn wsL_strikes wsX5_leastSwing := goodIn_r _ [90, 6, 7, 8, 9, 10, 11, 12, 4, 13, 14, 15, 16, 17, 18, 19, 20, 21, 22, 23, 24, 25, 26, 27, 28, 29, 30, 31, 32, 33, 34, 35, 36, 37, 38, 39, 40, 41, 42, 43, 44, 45, 46, 47, 48, 49, 50, 51, 52, 53, 54, 55, 56, 57, 58, 59, 60, 61, 62, 63, 64, 65, 66, 67, 68, 69, 70, 71, 72, 73, 74, 75, 76, 77, 78, 79, 80, 81, 82, 83, 84, 85, 86, 204, 205, 206, 207, 208, 209, 210, 211, 212, 213, 214, 215, 216, 217, 218, 219, 220, 221, 222, 223, 224] (by decide +kernel) (by decide +kernel)
set_option maxRecDepth 20000 in
theorem gL_strikes_X5_leastSwing : GoodIn wsL_strikes (wsV RL 78 RX5 yX5_leastSwing wsX5_leastSwing) := goodIn_app (goodIn_of _ (by decide +kernel)) ggL_strikes_X5_leastSwing
set_option maxRecDepth 20000 in
theorem ggL_strikes_L_print : GoodIn wsL_strikes wsL_print := goodIn_r _ [94, 95, 96, 97, 98, 99, 4, 100, 6, 101, 102, 103, 104, 105, 106, 107, 108, 109, 110, 10, 111, 23, 28, 112, 113, 114, 115, 18, 116, 117, 118, 119, 47, 120, 121, 122, 123, 124, 125, 126, 127, 49, 128, 129, 130, 131, 48, 132, 133, 134, 135, 136, 137, 138, 139, 140, 141, 142, 143, 144, 145, 146, 147, 148, 20, 21, 22, 12, 13, 149, 150, 151, 152, 153, 154, 155, 156, 157, 158, 159, 160, 161, 162, 163, 204, 205, 206, 207, 208, 209, 210, 211, 212, 213, 214, 215, 216, 217, 218, 219, 220, 221, 222, 223, 224, 225, 226, 227, 228, 229, 230, 231, 232, 233] (by decide +kernel) (by decide +kernel)
set_option maxRecDepth 20000 in
theorem gL_strikes_L_print : GoodIn wsL_strikes (va_wsS RL 81 yL_print wsL_print) := goodIn_app (goodIn_of _ (by decide +kernel)) ggL_strikes_L_print
set_option maxRecDepth 20000 in
theorem ggL_strikes_X5_count : GoodIn wsL_strikes wsX5_count := goodIn_r _ [100, 6, 101, 102, 103, 104, 105, 106, 107, 108, 109, 110, 10, 111, 23, 28, 112, 113, 114, 115, 18, 116, 117, 118, 119, 47, 120, 121, 122, 123, 124, 125, 126, 127, 49, 128, 129, 130, 131, 48, 132, 133, 134, 135, 204, 205, 206, 207, 208, 209, 210, 211, 212, 213, 214, 215, 216, 217, 218, 219, 220, 221, 222, 223, 224, 225, 226, 227, 228, 229, 230, 231, 232, 233] (by decide +kernel) (by decide +kernel)
set_option maxRecDepth 20000 in
theorem gL_strikes_X5_count : GoodIn wsL_strikes (wsV RL 48 RX5 yX5_count wsX5_count) := goodIn_app (goodIn_of _ (by decide +kernel)) ggL_strikes_X5_count
set_option maxRecDepth 20000 in
theorem ggL_strikes_X5_strike : GoodIn wsL_strikes wsX5_strike := goodIn_r _ [167, 6, 104, 7, 8, 9, 10, 11, 12, 4, 13, 14, 15, 16, 17, 18, 19, 20, 21, 22, 23, 24, 25, 26, 27, 28, 168, 169, 170, 171, 172, 173, 174, 175, 176, 177, 178, 179, 35, 36, 37, 38, 39, 40, 41, 42, 43, 44, 45, 46, 47, 48, 49, 50, 51, 52, 53, 54, 55, 56, 57, 58, 59, 60, 61, 62, 63, 64, 65, 66, 67, 68, 69, 70, 71, 72, 73, 74, 75, 76, 77, 78, 79, 80, 81, 82, 83, 84, 85, 86, 204, 205, 206, 207, 208, 209, 210, 211, 212, 213, 214, 215, 216, 217, 218, 219, 220, 221, 222, 223, 224, 225, 226] (by decide +kernel) (by decide +kernel)
set_option maxRecDepth 20000 in
theorem gL_strikes_X5_strike : GoodIn wsL_strikes (wsV RL 45 RX5 yX5_strike wsX5_strike) := goodIn_app (goodIn_of _ (by decide +kernel)) ggL_strikes_X5_strike
set_option maxRecDepth 20000 in
theorem ggL_strikes_X5_conker : GoodIn wsL_strikes wsX5_conker := goodIn_r _ [139, 6, 140, 141, 142, 143, 144, 145, 146, 147, 148, 20, 21, 10, 22, 23, 12, 4, 13, 149, 125, 126, 127, 49, 204, 205, 206, 207, 208, 209, 210, 211, 212, 213, 214, 215, 216, 217, 218, 219, 220, 221, 222, 223, 224] (by decide +kernel) (by decide +kernel)
set_option maxRecDepth 20000 in
theorem gL_strikes_X5_conker : GoodIn wsL_strikes (wsV RL 51 RX5 yX5_conker wsX5_conker) := goodIn_app (goodIn_of _ (by decide +kernel)) ggL_strikes_X5_conker
set_option maxRecDepth 20000 in
theorem ggL_strikes_L_conkers : GoodIn wsL_strikes wsL_conkers := goodIn_r _ [182, 183, 97, 98, 99, 4, 100, 6, 101, 102, 103, 104, 105, 106, 107, 108, 109, 110, 10, 111, 23, 28, 112, 113, 114, 115, 18, 116, 117, 118, 119, 47, 120, 121, 122, 123, 124, 125, 126, 127, 49, 128, 129, 130, 131, 48, 132, 133, 134, 135, 136, 137, 138, 139, 140, 141, 142, 143, 144, 145, 146, 147, 148, 20, 21, 22, 12, 13, 149, 184, 185, 186, 187, 188, 189, 190, 191, 192, 193, 194, 195, 19, 204, 205, 206, 207, 208, 209, 210, 211, 212, 213, 214, 215, 216, 217, 218, 219, 220, 221, 222, 223, 224, 225, 226, 227, 228, 229, 230, 231, 232, 233] (by decide +kernel) (by decide +kernel)
set_option maxRecDepth 20000 in
theorem gL_strikes_L_conkers : GoodIn wsL_strikes (va_wsS RL 67 yL_conkers wsL_conkers) := goodIn_app (goodIn_of _ (by decide +kernel)) ggL_strikes_L_conkers
set_option maxRecDepth 20000 in
theorem ggL_strikes_X5_undo : GoodIn wsL_strikes wsX5_undo := goodIn_r _ [199, 104, 6, 200, 201, 202, 171, 203, 173, 174, 179, 35, 36, 10, 37, 38, 39, 40, 41, 42, 43, 18, 44, 45, 46, 47, 48, 28, 49, 23, 50, 51, 204, 205, 206, 207, 208, 209, 210, 211, 225, 226, 212, 213, 214, 215, 216, 217, 218, 219, 220, 221, 222, 223, 224] (by decide +kernel) (by decide +kernel)
set_option maxRecDepth 20000 in
theorem gL_strikes_X5_undo : GoodIn wsL_strikes (wsV RL 85 RX5 yX5_undo wsX5_undo) := goodIn_app (goodIn_of _ (by decide +kernel)) ggL_strikes_X5_undo
theorem dL_strikes_0 : decode cL_strikes 0 = .ok (.aload_n 0, 1) := by decide +kernel
theorem dL_strikes_1 : decode cL_strikes 1 = .ok (.iload_n 1, 1) := by decide +kernel
theorem dL_strikes_2 : decode cL_strikes 2 = .ok (.iload_n 2, 1) := by decide +kernel
theorem dL_strikes_3 : decode cL_strikes 3 = .ok (.iload_n 3, 1) := by decide +kernel
theorem dL_strikes_4 : decode cL_strikes 4 = .ok (.invokevirtual 75, 3) := by decide +kernel
theorem dL_strikes_7 : decode cL_strikes 7 = .ok (.istore 4, 2) := by decide +kernel
theorem dL_strikes_9 : decode cL_strikes 9 = .ok (.aload_n 0, 1) := by decide +kernel
theorem dL_strikes_10 : decode cL_strikes 10 = .ok (.iload_n 1, 1) := by decide +kernel
theorem dL_strikes_11 : decode cL_strikes 11 = .ok (.iload_n 2, 1) := by decide +kernel
theorem dL_strikes_12 : decode cL_strikes 12 = .ok (.invokevirtual 78, 3) := by decide +kernel
theorem dL_strikes_15 : decode cL_strikes 15 = .ok (.istore 5, 2) := by decide +kernel
theorem dL_strikes_17 : decode cL_strikes 17 = .ok (.aload_n 0, 1) := by decide +kernel
theorem dL_strikes_18 : decode cL_strikes 18 = .ok (.invokestatic 81, 3) := by decide +kernel
theorem dL_strikes_21 : decode cL_strikes 21 = .ok (.lstore 6, 2) := by decide +kernel
theorem dL_strikes_23 : decode cL_strikes 23 = .ok (.aload_n 0, 1) := by decide +kernel
theorem dL_strikes_24 : decode cL_strikes 24 = .ok (.bipush 6, 2) := by decide +kernel
theorem dL_strikes_26 : decode cL_strikes 26 = .ok (.invokevirtual 48, 3) := by decide +kernel
theorem dL_strikes_29 : decode cL_strikes 29 = .ok (.istore 8, 2) := by decide +kernel
theorem dL_strikes_31 : decode cL_strikes 31 = .ok (.aload_n 0, 1) := by decide +kernel
theorem dL_strikes_32 : decode cL_strikes 32 = .ok (.iconst 4, 1) := by decide +kernel
theorem dL_strikes_33 : decode cL_strikes 33 = .ok (.invokevirtual 48, 3) := by decide +kernel
theorem dL_strikes_36 : decode cL_strikes 36 = .ok (.istore 9, 2) := by decide +kernel
theorem dL_strikes_38 : decode cL_strikes 38 = .ok (.aload_n 0, 1) := by decide +kernel
theorem dL_strikes_39 : decode cL_strikes 39 = .ok (.iload_n 1, 1) := by decide +kernel
theorem dL_strikes_40 : decode cL_strikes 40 = .ok (.iload_n 2, 1) := by decide +kernel
theorem dL_strikes_41 : decode cL_strikes 41 = .ok (.iload_n 3, 1) := by decide +kernel
theorem dL_strikes_42 : decode cL_strikes 42 = .ok (.invokevirtual 45, 3) := by decide +kernel
theorem dL_strikes_45 : decode cL_strikes 45 = .ok (.istore 10, 2) := by decide +kernel
theorem dL_strikes_47 : decode cL_strikes 47 = .ok (.iload 10, 2) := by decide +kernel
theorem dL_strikes_49 : decode cL_strikes 49 = .ok (.ifCond .ge 33, 3) := by decide +kernel
theorem dL_strikes_52 : decode cL_strikes 52 = .ok (.iload 10, 2) := by decide +kernel
theorem dL_strikes_54 : decode cL_strikes 54 = .ok (.iload 4, 2) := by decide +kernel
theorem dL_strikes_56 : decode cL_strikes 56 = .ok (.if_icmp .ne 24, 3) := by decide +kernel
theorem dL_strikes_59 : decode cL_strikes 59 = .ok (.iload 5, 2) := by decide +kernel
theorem dL_strikes_61 : decode cL_strikes 61 = .ok (.iload 10, 2) := by decide +kernel
theorem dL_strikes_63 : decode cL_strikes 63 = .ok (.if_icmp .ne 17, 3) := by decide +kernel
theorem dL_strikes_66 : decode cL_strikes 66 = .ok (.aload_n 0, 1) := by decide +kernel
theorem dL_strikes_67 : decode cL_strikes 67 = .ok (.invokestatic 81, 3) := by decide +kernel
theorem dL_strikes_70 : decode cL_strikes 70 = .ok (.lload 6, 2) := by decide +kernel
theorem dL_strikes_72 : decode cL_strikes 72 = .ok (.lcmp, 1) := by decide +kernel
theorem dL_strikes_73 : decode cL_strikes 73 = .ok (.ifCond .ne 7, 3) := by decide +kernel
theorem dL_strikes_76 : decode cL_strikes 76 = .ok (.iconst 1, 1) := by decide +kernel
theorem dL_strikes_77 : decode cL_strikes 77 = .ok (.goto 4, 3) := by decide +kernel
theorem dL_strikes_80 : decode cL_strikes 80 = .ok (.iconst 0, 1) := by decide +kernel
theorem dL_strikes_81 : decode cL_strikes 81 = .ok (.ireturn, 1) := by decide +kernel
theorem dL_strikes_82 : decode cL_strikes 82 = .ok (.iload 10, 2) := by decide +kernel
theorem dL_strikes_84 : decode cL_strikes 84 = .ok (.iload 4, 2) := by decide +kernel
theorem dL_strikes_86 : decode cL_strikes 86 = .ok (.if_icmp .ne 153, 3) := by decide +kernel
theorem dL_strikes_89 : decode cL_strikes 89 = .ok (.aload_n 0, 1) := by decide +kernel
theorem dL_strikes_90 : decode cL_strikes 90 = .ok (.bipush 6, 2) := by decide +kernel
theorem dL_strikes_92 : decode cL_strikes 92 = .ok (.invokevirtual 48, 3) := by decide +kernel
theorem dL_strikes_95 : decode cL_strikes 95 = .ok (.iload 8, 2) := by decide +kernel
theorem dL_strikes_97 : decode cL_strikes 97 = .ok (.iconst 1, 1) := by decide +kernel
theorem dL_strikes_98 : decode cL_strikes 98 = .ok (.iadd, 1) := by decide +kernel
theorem dL_strikes_99 : decode cL_strikes 99 = .ok (.if_icmp .ne 140, 3) := by decide +kernel
theorem dL_strikes_102 : decode cL_strikes 102 = .ok (.aload_n 0, 1) := by decide +kernel
theorem dL_strikes_103 : decode cL_strikes 103 = .ok (.iload_n 1, 1) := by decide +kernel
theorem dL_strikes_104 : decode cL_strikes 104 = .ok (.bipush 6, 2) := by decide +kernel
theorem dL_strikes_106 : decode cL_strikes 106 = .ok (.invokevirtual 51, 3) := by decide +kernel
theorem dL_strikes_109 : decode cL_strikes 109 = .ok (.iconst 2, 1) := by decide +kernel
theorem dL_strikes_110 : decode cL_strikes 110 = .ok (.if_icmp .ne 7, 3) := by decide +kernel
theorem dL_strikes_113 : decode cL_strikes 113 = .ok (.iconst 1, 1) := by decide +kernel
theorem dL_strikes_114 : decode cL_strikes 114 = .ok (.goto 4, 3) := by decide +kernel
theorem dL_strikes_117 : decode cL_strikes 117 = .ok (.iconst 0, 1) := by decide +kernel
theorem dL_strikes_118 : decode cL_strikes 118 = .ok (.iload 10, 2) := by decide +kernel
theorem dL_strikes_120 : decode cL_strikes 120 = .ok (.iconst 2, 1) := by decide +kernel
theorem dL_strikes_121 : decode cL_strikes 121 = .ok (.irem, 1) := by decide +kernel
theorem dL_strikes_122 : decode cL_strikes 122 = .ok (.iconst 1, 1) := by decide +kernel
theorem dL_strikes_123 : decode cL_strikes 123 = .ok (.if_icmp .ne 7, 3) := by decide +kernel
theorem dL_strikes_126 : decode cL_strikes 126 = .ok (.iconst 1, 1) := by decide +kernel
theorem dL_strikes_127 : decode cL_strikes 127 = .ok (.goto 4, 3) := by decide +kernel
theorem dL_strikes_130 : decode cL_strikes 130 = .ok (.iconst 0, 1) := by decide +kernel
theorem dL_strikes_131 : decode cL_strikes 131 = .ok (.if_icmp .ne 108, 3) := by decide +kernel
theorem dL_strikes_134 : decode cL_strikes 134 = .ok (.aload_n 0, 1) := by decide +kernel
theorem dL_strikes_135 : decode cL_strikes 135 = .ok (.iload_n 2, 1) := by decide +kernel
theorem dL_strikes_136 : decode cL_strikes 136 = .ok (.bipush 6, 2) := by decide +kernel
theorem dL_strikes_138 : decode cL_strikes 138 = .ok (.invokevirtual 51, 3) := by decide +kernel
theorem dL_strikes_141 : decode cL_strikes 141 = .ok (.iconst 2, 1) := by decide +kernel
theorem dL_strikes_142 : decode cL_strikes 142 = .ok (.if_icmp .ne 7, 3) := by decide +kernel
theorem dL_strikes_145 : decode cL_strikes 145 = .ok (.iconst 1, 1) := by decide +kernel
theorem dL_strikes_146 : decode cL_strikes 146 = .ok (.goto 4, 3) := by decide +kernel
theorem dL_strikes_149 : decode cL_strikes 149 = .ok (.iconst 0, 1) := by decide +kernel
theorem dL_strikes_150 : decode cL_strikes 150 = .ok (.iload 10, 2) := by decide +kernel
theorem dL_strikes_152 : decode cL_strikes 152 = .ok (.iconst 2, 1) := by decide +kernel
theorem dL_strikes_153 : decode cL_strikes 153 = .ok (.idiv, 1) := by decide +kernel
theorem dL_strikes_154 : decode cL_strikes 154 = .ok (.iconst 2, 1) := by decide +kernel
theorem dL_strikes_155 : decode cL_strikes 155 = .ok (.irem, 1) := by decide +kernel
theorem dL_strikes_156 : decode cL_strikes 156 = .ok (.iconst 1, 1) := by decide +kernel
theorem dL_strikes_157 : decode cL_strikes 157 = .ok (.if_icmp .ne 7, 3) := by decide +kernel
theorem dL_strikes_160 : decode cL_strikes 160 = .ok (.iconst 1, 1) := by decide +kernel
theorem dL_strikes_161 : decode cL_strikes 161 = .ok (.goto 4, 3) := by decide +kernel
theorem dL_strikes_164 : decode cL_strikes 164 = .ok (.iconst 0, 1) := by decide +kernel
theorem dL_strikes_165 : decode cL_strikes 165 = .ok (.if_icmp .ne 74, 3) := by decide +kernel
theorem dL_strikes_168 : decode cL_strikes 168 = .ok (.aload_n 0, 1) := by decide +kernel
theorem dL_strikes_169 : decode cL_strikes 169 = .ok (.iload_n 1, 1) := by decide +kernel
theorem dL_strikes_170 : decode cL_strikes 170 = .ok (.bipush 6, 2) := by decide +kernel
theorem dL_strikes_172 : decode cL_strikes 172 = .ok (.invokevirtual 51, 3) := by decide +kernel
theorem dL_strikes_175 : decode cL_strikes 175 = .ok (.iconst 1, 1) := by decide +kernel
theorem dL_strikes_176 : decode cL_strikes 176 = .ok (.if_icmp .ne 7, 3) := by decide +kernel
theorem dL_strikes_179 : decode cL_strikes 179 = .ok (.iconst 1, 1) := by decide +kernel
theorem dL_strikes_180 : decode cL_strikes 180 = .ok (.goto 4, 3) := by decide +kernel
theorem dL_strikes_183 : decode cL_strikes 183 = .ok (.iconst 0, 1) := by decide +kernel
theorem dL_strikes_184 : decode cL_strikes 184 = .ok (.iload 10, 2) := by decide +kernel
theorem dL_strikes_186 : decode cL_strikes 186 = .ok (.iconst 4, 1) := by decide +kernel
theorem dL_strikes_187 : decode cL_strikes 187 = .ok (.idiv, 1) := by decide +kernel
theorem dL_strikes_188 : decode cL_strikes 188 = .ok (.iconst 2, 1) := by decide +kernel
theorem dL_strikes_189 : decode cL_strikes 189 = .ok (.irem, 1) := by decide +kernel
theorem dL_strikes_190 : decode cL_strikes 190 = .ok (.iconst 1, 1) := by decide +kernel
theorem dL_strikes_191 : decode cL_strikes 191 = .ok (.if_icmp .ne 7, 3) := by decide +kernel
theorem dL_strikes_194 : decode cL_strikes 194 = .ok (.iconst 1, 1) := by decide +kernel
theorem dL_strikes_195 : decode cL_strikes 195 = .ok (.goto 4, 3) := by decide +kernel
theorem dL_strikes_198 : decode cL_strikes 198 = .ok (.iconst 0, 1) := by decide +kernel
theorem dL_strikes_199 : decode cL_strikes 199 = .ok (.if_icmp .ne 40, 3) := by decide +kernel
theorem dL_strikes_202 : decode cL_strikes 202 = .ok (.aload_n 0, 1) := by decide +kernel
theorem dL_strikes_203 : decode cL_strikes 203 = .ok (.iload_n 2, 1) := by decide +kernel
theorem dL_strikes_204 : decode cL_strikes 204 = .ok (.bipush 6, 2) := by decide +kernel
theorem dL_strikes_206 : decode cL_strikes 206 = .ok (.invokevirtual 51, 3) := by decide +kernel
theorem dL_strikes_209 : decode cL_strikes 209 = .ok (.iconst 1, 1) := by decide +kernel
theorem dL_strikes_210 : decode cL_strikes 210 = .ok (.if_icmp .ne 7, 3) := by decide +kernel
theorem dL_strikes_213 : decode cL_strikes 213 = .ok (.iconst 1, 1) := by decide +kernel
theorem dL_strikes_214 : decode cL_strikes 214 = .ok (.goto 4, 3) := by decide +kernel
theorem dL_strikes_217 : decode cL_strikes 217 = .ok (.iconst 0, 1) := by decide +kernel
theorem dL_strikes_218 : decode cL_strikes 218 = .ok (.iload 10, 2) := by decide +kernel
theorem dL_strikes_220 : decode cL_strikes 220 = .ok (.bipush 8, 2) := by decide +kernel
theorem dL_strikes_222 : decode cL_strikes 222 = .ok (.idiv, 1) := by decide +kernel
theorem dL_strikes_223 : decode cL_strikes 223 = .ok (.iconst 1, 1) := by decide +kernel
theorem dL_strikes_224 : decode cL_strikes 224 = .ok (.if_icmp .ne 7, 3) := by decide +kernel
theorem dL_strikes_227 : decode cL_strikes 227 = .ok (.iconst 1, 1) := by decide +kernel
theorem dL_strikes_228 : decode cL_strikes 228 = .ok (.goto 4, 3) := by decide +kernel
theorem dL_strikes_231 : decode cL_strikes 231 = .ok (.iconst 0, 1) := by decide +kernel
theorem dL_strikes_232 : decode cL_strikes 232 = .ok (.if_icmp .ne 7, 3) := by decide +kernel
theorem dL_strikes_235 : decode cL_strikes 235 = .ok (.iconst 1, 1) := by decide +kernel
theorem dL_strikes_236 : decode cL_strikes 236 = .ok (.goto 4, 3) := by decide +kernel
theorem dL_strikes_239 : decode cL_strikes 239 = .ok (.iconst 0, 1) := by decide +kernel
theorem dL_strikes_240 : decode cL_strikes 240 = .ok (.istore 11, 2) := by decide +kernel
theorem dL_strikes_242 : decode cL_strikes 242 = .ok (.iload 11, 2) := by decide +kernel
theorem dL_strikes_244 : decode cL_strikes 244 = .ok (.ifCond .eq 125, 3) := by decide +kernel
theorem dL_strikes_247 : decode cL_strikes 247 = .ok (.iload 10, 2) := by decide +kernel
theorem dL_strikes_249 : decode cL_strikes 249 = .ok (.iconst 4, 1) := by decide +kernel
theorem dL_strikes_250 : decode cL_strikes 250 = .ok (.irem, 1) := by decide +kernel
theorem dL_strikes_251 : decode cL_strikes 251 = .ok (.ifCond .ne 16, 3) := by decide +kernel
theorem dL_strikes_254 : decode cL_strikes 254 = .ok (.aload_n 0, 1) := by decide +kernel
theorem dL_strikes_255 : decode cL_strikes 255 = .ok (.iconst 4, 1) := by decide +kernel
theorem dL_strikes_256 : decode cL_strikes 256 = .ok (.invokevirtual 48, 3) := by decide +kernel
theorem dL_strikes_259 : decode cL_strikes 259 = .ok (.iload 9, 2) := by decide +kernel
theorem dL_strikes_261 : decode cL_strikes 261 = .ok (.if_icmp .ne 108, 3) := by decide +kernel
theorem dL_strikes_264 : decode cL_strikes 264 = .ok (.goto 36, 3) := by decide +kernel
theorem dL_strikes_267 : decode cL_strikes 267 = .ok (.iload 10, 2) := by decide +kernel
theorem dL_strikes_269 : decode cL_strikes 269 = .ok (.iconst 4, 1) := by decide +kernel
theorem dL_strikes_270 : decode cL_strikes 270 = .ok (.irem, 1) := by decide +kernel
theorem dL_strikes_271 : decode cL_strikes 271 = .ok (.iconst 3, 1) := by decide +kernel
theorem dL_strikes_272 : decode cL_strikes 272 = .ok (.if_icmp .ne 16, 3) := by decide +kernel
theorem dL_strikes_275 : decode cL_strikes 275 = .ok (.aload_n 0, 1) := by decide +kernel
theorem dL_strikes_276 : decode cL_strikes 276 = .ok (.iconst 4, 1) := by decide +kernel
theorem dL_strikes_277 : decode cL_strikes 277 = .ok (.invokevirtual 48, 3) := by decide +kernel
theorem dL_strikes_280 : decode cL_strikes 280 = .ok (.iload 9, 2) := by decide +kernel
theorem dL_strikes_282 : decode cL_strikes 282 = .ok (.if_icmp .gt 87, 3) := by decide +kernel
theorem dL_strikes_285 : decode cL_strikes 285 = .ok (.goto 15, 3) := by decide +kernel
theorem dL_strikes_288 : decode cL_strikes 288 = .ok (.aload_n 0, 1) := by decide +kernel
theorem dL_strikes_289 : decode cL_strikes 289 = .ok (.iconst 4, 1) := by decide +kernel
theorem dL_strikes_290 : decode cL_strikes 290 = .ok (.invokevirtual 48, 3) := by decide +kernel
theorem dL_strikes_293 : decode cL_strikes 293 = .ok (.iload 9, 2) := by decide +kernel
theorem dL_strikes_295 : decode cL_strikes 295 = .ok (.iconst 1, 1) := by decide +kernel
theorem dL_strikes_296 : decode cL_strikes 296 = .ok (.iadd, 1) := by decide +kernel
theorem dL_strikes_297 : decode cL_strikes 297 = .ok (.if_icmp .ne 72, 3) := by decide +kernel
theorem dL_strikes_300 : decode cL_strikes 300 = .ok (.iload 10, 2) := by decide +kernel
theorem dL_strikes_302 : decode cL_strikes 302 = .ok (.iconst 4, 1) := by decide +kernel
theorem dL_strikes_303 : decode cL_strikes 303 = .ok (.irem, 1) := by decide +kernel
theorem dL_strikes_304 : decode cL_strikes 304 = .ok (.iconst 2, 1) := by decide +kernel
theorem dL_strikes_305 : decode cL_strikes 305 = .ok (.if_icmp .ne 15, 3) := by decide +kernel
theorem dL_strikes_308 : decode cL_strikes 308 = .ok (.iload 5, 2) := by decide +kernel
theorem dL_strikes_310 : decode cL_strikes 310 = .ok (.iconst 1, 1) := by decide +kernel
theorem dL_strikes_311 : decode cL_strikes 311 = .ok (.if_icmp .lt 58, 3) := by decide +kernel
theorem dL_strikes_314 : decode cL_strikes 314 = .ok (.iload 5, 2) := by decide +kernel
theorem dL_strikes_316 : decode cL_strikes 316 = .ok (.iload_n 3, 1) := by decide +kernel
theorem dL_strikes_317 : decode cL_strikes 317 = .ok (.if_icmp .gt 52, 3) := by decide +kernel
theorem dL_strikes_320 : decode cL_strikes 320 = .ok (.iload 10, 2) := by decide +kernel
theorem dL_strikes_322 : decode cL_strikes 322 = .ok (.iconst 4, 1) := by decide +kernel
theorem dL_strikes_323 : decode cL_strikes 323 = .ok (.irem, 1) := by decide +kernel
theorem dL_strikes_324 : decode cL_strikes 324 = .ok (.iconst 1, 1) := by decide +kernel
theorem dL_strikes_325 : decode cL_strikes 325 = .ok (.if_icmp .ne 14, 3) := by decide +kernel
theorem dL_strikes_328 : decode cL_strikes 328 = .ok (.aload_n 0, 1) := by decide +kernel
theorem dL_strikes_329 : decode cL_strikes 329 = .ok (.iload_n 1, 1) := by decide +kernel
theorem dL_strikes_330 : decode cL_strikes 330 = .ok (.bipush 7, 2) := by decide +kernel
theorem dL_strikes_332 : decode cL_strikes 332 = .ok (.invokevirtual 51, 3) := by decide +kernel
theorem dL_strikes_335 : decode cL_strikes 335 = .ok (.iload_n 2, 1) := by decide +kernel
theorem dL_strikes_336 : decode cL_strikes 336 = .ok (.if_icmp .ne 33, 3) := by decide +kernel
theorem dL_strikes_339 : decode cL_strikes 339 = .ok (.iload 10, 2) := by decide +kernel
theorem dL_strikes_341 : decode cL_strikes 341 = .ok (.iconst 4, 1) := by decide +kernel
theorem dL_strikes_342 : decode cL_strikes 342 = .ok (.irem, 1) := by decide +kernel
theorem dL_strikes_343 : decode cL_strikes 343 = .ok (.iconst 2, 1) := by decide +kernel
theorem dL_strikes_344 : decode cL_strikes 344 = .ok (.if_icmp .ne 14, 3) := by decide +kernel
theorem dL_strikes_347 : decode cL_strikes 347 = .ok (.aload_n 0, 1) := by decide +kernel
theorem dL_strikes_348 : decode cL_strikes 348 = .ok (.iload_n 2, 1) := by decide +kernel
theorem dL_strikes_349 : decode cL_strikes 349 = .ok (.bipush 7, 2) := by decide +kernel
theorem dL_strikes_351 : decode cL_strikes 351 = .ok (.invokevirtual 51, 3) := by decide +kernel
theorem dL_strikes_354 : decode cL_strikes 354 = .ok (.iload_n 1, 1) := by decide +kernel
theorem dL_strikes_355 : decode cL_strikes 355 = .ok (.if_icmp .ne 14, 3) := by decide +kernel
theorem dL_strikes_358 : decode cL_strikes 358 = .ok (.aload_n 0, 1) := by decide +kernel
theorem dL_strikes_359 : decode cL_strikes 359 = .ok (.invokestatic 67, 3) := by decide +kernel
theorem dL_strikes_362 : decode cL_strikes 362 = .ok (.ifCond .eq 7, 3) := by decide +kernel
theorem dL_strikes_365 : decode cL_strikes 365 = .ok (.iconst 1, 1) := by decide +kernel
theorem dL_strikes_366 : decode cL_strikes 366 = .ok (.goto 4, 3) := by decide +kernel
theorem dL_strikes_369 : decode cL_strikes 369 = .ok (.iconst 0, 1) := by decide +kernel
theorem dL_strikes_370 : decode cL_strikes 370 = .ok (.istore 11, 2) := by decide +kernel
theorem dL_strikes_372 : decode cL_strikes 372 = .ok (.iload 11, 2) := by decide +kernel
theorem dL_strikes_374 : decode cL_strikes 374 = .ok (.ifCond .eq 24, 3) := by decide +kernel
theorem dL_strikes_377 : decode cL_strikes 377 = .ok (.aload_n 0, 1) := by decide +kernel
theorem dL_strikes_378 : decode cL_strikes 378 = .ok (.invokevirtual 85, 3) := by decide +kernel
theorem dL_strikes_381 : decode cL_strikes 381 = .ok (.ifCond .lt 17, 3) := by decide +kernel
theorem dL_strikes_384 : decode cL_strikes 384 = .ok (.aload_n 0, 1) := by decide +kernel
theorem dL_strikes_385 : decode cL_strikes 385 = .ok (.invokestatic 81, 3) := by decide +kernel
theorem dL_strikes_388 : decode cL_strikes 388 = .ok (.lload 6, 2) := by decide +kernel
theorem dL_strikes_390 : decode cL_strikes 390 = .ok (.lcmp, 1) := by decide +kernel
theorem dL_strikes_391 : decode cL_strikes 391 = .ok (.ifCond .ne 7, 3) := by decide +kernel
theorem dL_strikes_394 : decode cL_strikes 394 = .ok (.iconst 1, 1) := by decide +kernel
theorem dL_strikes_395 : decode cL_strikes 395 = .ok (.goto 4, 3) := by decide +kernel
theorem dL_strikes_398 : decode cL_strikes 398 = .ok (.iconst 0, 1) := by decide +kernel
theorem dL_strikes_399 : decode cL_strikes 399 = .ok (.ireturn, 1) := by decide +kernel
set_option maxRecDepth 20000 in
theorem ggL_fights_X5_winner : GoodIn wsL_fights wsX5_winner := goodIn_r _ [5, 6, 7, 8, 9, 10, 11, 12, 13, 14, 15, 16, 4, 17, 18, 19, 20, 21, 22, 23, 24, 25, 26, 27, 28, 29, 30, 31, 32, 33, 34, 35, 36, 37, 38, 39, 40, 41, 42, 43, 44, 45, 46, 47, 48, 49, 50, 51, 52, 53, 54, 55, 56, 57, 58, 59, 60, 61, 62, 63, 64, 65, 66, 67, 68, 69, 70, 71, 72, 73, 74, 75, 76, 77, 78, 79, 80, 81, 82, 83, 84, 85, 86, 87, 88, 89, 90, 91, 92, 93, 94, 95, 96, 97, 98, 99, 100, 101, 102, 103, 104, 105, 106, 107, 220, 221, 222, 223, 224, 225, 226, 227, 228, 229, 230, 231, 232, 233, 234, 235, 236, 237, 238, 239, 240, 241] (by decide +kernel) (by decide +kernel)
set_option maxRecDepth 20000 in
theorem gL_fights_X5_winner : GoodIn wsL_fights (wsV RL 89 RX5 yX5_winner wsX5_winner) := goodIn_app (goodIn_of _ (by decide +kernel)) ggL_fights_X5_winner
set_option maxRecDepth 20000 in
theorem ggL_fights_L_print : GoodIn wsL_fights wsL_print := goodIn_r _ [111, 112, 113, 114, 115, 116, 4, 117, 6, 118, 119, 120, 121, 122, 123, 124, 125, 126, 127, 13, 128, 27, 32, 129, 130, 131, 132, 22, 133, 134, 135, 136, 46, 137, 138, 139, 140, 141, 142, 143, 144, 48, 145, 146, 147, 148, 47, 149, 150, 151, 152, 153, 154, 155, 156, 157, 158, 159, 160, 161, 162, 9, 163, 164, 24, 25, 26, 16, 17, 165, 166, 167, 168, 169, 170, 171, 172, 173, 174, 175, 176, 177, 178, 179, 220, 221, 222, 223, 224, 225, 226, 227, 228, 229, 230, 231, 232, 233, 234, 235, 236, 237, 238, 239, 240, 242, 243, 244, 245, 246, 247, 248, 249, 250] (by decide +kernel) (by decide +kernel)
set_option maxRecDepth 20000 in
theorem gL_fights_L_print : GoodIn wsL_fights (va_wsS RL 81 yL_print wsL_print) := goodIn_app (goodIn_of _ (by decide +kernel)) ggL_fights_L_print
set_option maxRecDepth 20000 in
theorem ggL_fights_X5_count : GoodIn wsL_fights wsX5_count := goodIn_r _ [117, 6, 118, 119, 120, 121, 122, 123, 124, 125, 126, 127, 13, 128, 27, 32, 129, 130, 131, 132, 22, 133, 134, 135, 136, 46, 137, 138, 139, 140, 141, 142, 143, 144, 48, 145, 146, 147, 148, 47, 149, 150, 151, 152, 220, 221, 222, 223, 224, 225, 226, 227, 228, 229, 230, 231, 232, 233, 234, 235, 236, 237, 238, 239, 240, 242, 243, 244, 245, 246, 247, 248, 249, 250] (by decide +kernel) (by decide +kernel)
set_option maxRecDepth 20000 in
theorem gL_fights_X5_count : GoodIn wsL_fights (wsV RL 48 RX5 yX5_count wsX5_count) := goodIn_app (goodIn_of _ (by decide +kernel)) ggL_fights_X5_count
set_option maxRecDepth 20000 in
theorem ggL_fights_X5_bout : GoodIn wsL_fights wsX5_bout := goodIn_r _ [183, 6, 121, 8, 10, 11, 12, 13, 14, 15, 16, 4, 17, 18, 19, 20, 21, 22, 23, 24, 25, 26, 27, 28, 29, 30, 31, 32, 184, 185, 186, 187, 188, 189, 190, 191, 192, 193, 194, 195, 34, 35, 36, 37, 38, 39, 40, 41, 42, 43, 44, 45, 46, 47, 48, 49, 50, 51, 52, 53, 54, 55, 56, 57, 58, 59, 60, 61, 62, 63, 64, 65, 66, 67, 68, 69, 70, 71, 72, 73, 74, 75, 76, 77, 78, 79, 80, 81, 82, 83, 84, 85, 86, 87, 88, 89, 90, 91, 92, 93, 94, 95, 96, 97, 98, 99, 100, 101, 102, 103, 104, 105, 106, 107, 220, 221, 222, 223, 224, 225, 226, 227, 228, 229, 230, 231, 232, 233, 234, 235, 236, 237, 238, 239, 240, 242, 243, 241] (by decide +kernel) (by decide +kernel)
set_option maxRecDepth 20000 in
theorem gL_fights_X5_bout : GoodIn wsL_fights (wsV RL 38 RX5 yX5_bout wsX5_bout) := goodIn_app (goodIn_of _ (by decide +kernel)) ggL_fights_X5_bout
set_option maxRecDepth 20000 in
theorem ggL_fights_X5_conker : GoodIn wsL_fights wsX5_conker := goodIn_r _ [156, 6, 157, 158, 159, 160, 161, 162, 9, 163, 164, 24, 25, 13, 26, 27, 16, 4, 17, 165, 142, 143, 144, 48, 220, 221, 222, 223, 224, 225, 226, 227, 228, 229, 230, 231, 232, 233, 234, 235, 236, 237, 238, 239, 240] (by decide +kernel) (by decide +kernel)
set_option maxRecDepth 20000 in
theorem gL_fights_X5_conker : GoodIn wsL_fights (wsV RL 51 RX5 yX5_conker wsX5_conker) := goodIn_app (goodIn_of _ (by decide +kernel)) ggL_fights_X5_conker
set_option maxRecDepth 20000 in
theorem ggL_fights_L_conkers : GoodIn wsL_fights wsL_conkers := goodIn_r _ [198, 199, 114, 115, 116, 4, 117, 6, 118, 119, 120, 121, 122, 123, 124, 125, 126, 127, 13, 128, 27, 32, 129, 130, 131, 132, 22, 133, 134, 135, 136, 46, 137, 138, 139, 140, 141, 142, 143, 144, 48, 145, 146, 147, 148, 47, 149, 150, 151, 152, 153, 154, 155, 156, 157, 158, 159, 160, 161, 162, 9, 163, 164, 24, 25, 26, 16, 17, 165, 200, 201, 202, 203, 204, 205, 206, 207, 208, 209, 210, 211, 23, 220, 221, 222, 223, 224, 225, 226, 227, 228, 229, 230, 231, 232, 233, 234, 235, 236, 237, 238, 239, 240, 242, 243, 244, 245, 246, 247, 248, 249, 250] (by decide +kernel) (by decide +kernel)
set_option maxRecDepth 20000 in
theorem gL_fights_L_conkers : GoodIn wsL_fights (va_wsS RL 67 yL_conkers wsL_conkers) := goodIn_app (goodIn_of _ (by decide +kernel)) ggL_fights_L_conkers
set_option maxRecDepth 20000 in
theorem ggL_fights_X5_undo : GoodIn wsL_fights wsX5_undo := goodIn_r _ [215, 121, 6, 216, 217, 218, 187, 219, 189, 190, 195, 34, 35, 13, 36, 37, 38, 39, 40, 41, 42, 22, 43, 44, 45, 46, 47, 32, 48, 27, 49, 50, 220, 221, 222, 223, 224, 225, 226, 227, 242, 243, 228, 229, 230, 231, 232, 233, 234, 235, 236, 237, 238, 239, 240] (by decide +kernel) (by decide +kernel)
set_option maxRecDepth 20000 in
theorem gL_fights_X5_undo : GoodIn wsL_fights (wsV RL 85 RX5 yX5_undo wsX5_undo) := goodIn_app (goodIn_of _ (by decide +kernel)) ggL_fights_X5_undo
theorem dL_fights_0 : decode cL_fights 0 = .ok (.aload_n 0, 1) := by decide +kernel
theorem dL_fights_1 : decode cL_fights 1 = .ok (.iload_n 1, 1) := by decide +kernel
theorem dL_fights_2 : decode cL_fights 2 = .ok (.iload_n 2, 1) := by decide +kernel
theorem dL_fights_3 : decode cL_fights 3 = .ok (.iload_n 3, 1) := by decide +kernel
theorem dL_fights_4 : decode cL_fights 4 = .ok (.invokevirtual 89, 3) := by decide +kernel
theorem dL_fights_7 : decode cL_fights 7 = .ok (.istore 4, 2) := by decide +kernel
theorem dL_fights_9 : decode cL_fights 9 = .ok (.aload_n 0, 1) := by decide +kernel
theorem dL_fights_10 : decode cL_fights 10 = .ok (.invokestatic 81, 3) := by decide +kernel
theorem dL_fights_13 : decode cL_fights 13 = .ok (.lstore 5, 2) := by decide +kernel
theorem dL_fights_15 : decode cL_fights 15 = .ok (.aload_n 0, 1) := by decide +kernel
theorem dL_fights_16 : decode cL_fights 16 = .ok (.bipush 6, 2) := by decide +kernel
theorem dL_fights_18 : decode cL_fights 18 = .ok (.invokevirtual 48, 3) := by decide +kernel
theorem dL_fights_21 : decode cL_fights 21 = .ok (.istore 7, 2) := by decide +kernel
theorem dL_fights_23 : decode cL_fights 23 = .ok (.aload_n 0, 1) := by decide +kernel
theorem dL_fights_24 : decode cL_fights 24 = .ok (.iload_n 1, 1) := by decide +kernel
theorem dL_fights_25 : decode cL_fights 25 = .ok (.iload_n 2, 1) := by decide +kernel
theorem dL_fights_26 : decode cL_fights 26 = .ok (.iload_n 3, 1) := by decide +kernel
theorem dL_fights_27 : decode cL_fights 27 = .ok (.invokevirtual 38, 3) := by decide +kernel
theorem dL_fights_30 : decode cL_fights 30 = .ok (.istore 8, 2) := by decide +kernel
theorem dL_fights_32 : decode cL_fights 32 = .ok (.iload 8, 2) := by decide +kernel
theorem dL_fights_34 : decode cL_fights 34 = .ok (.ifCond .ge 26, 3) := by decide +kernel
theorem dL_fights_37 : decode cL_fights 37 = .ok (.iload 8, 2) := by decide +kernel
theorem dL_fights_39 : decode cL_fights 39 = .ok (.iload 4, 2) := by decide +kernel
theorem dL_fights_41 : decode cL_fights 41 = .ok (.if_icmp .ne 17, 3) := by decide +kernel
theorem dL_fights_44 : decode cL_fights 44 = .ok (.aload_n 0, 1) := by decide +kernel
theorem dL_fights_45 : decode cL_fights 45 = .ok (.invokestatic 81, 3) := by decide +kernel
theorem dL_fights_48 : decode cL_fights 48 = .ok (.lload 5, 2) := by decide +kernel
theorem dL_fights_50 : decode cL_fights 50 = .ok (.lcmp, 1) := by decide +kernel
theorem dL_fights_51 : decode cL_fights 51 = .ok (.ifCond .ne 7, 3) := by decide +kernel
theorem dL_fights_54 : decode cL_fights 54 = .ok (.iconst 1, 1) := by decide +kernel
theorem dL_fights_55 : decode cL_fights 55 = .ok (.goto 4, 3) := by decide +kernel
theorem dL_fights_58 : decode cL_fights 58 = .ok (.iconst 0, 1) := by decide +kernel
theorem dL_fights_59 : decode cL_fights 59 = .ok (.ireturn, 1) := by decide +kernel
theorem dL_fights_60 : decode cL_fights 60 = .ok (.iload 4, 2) := by decide +kernel
theorem dL_fights_62 : decode cL_fights 62 = .ok (.iload_n 1, 1) := by decide +kernel
theorem dL_fights_63 : decode cL_fights 63 = .ok (.if_icmp .ne 7, 3) := by decide +kernel
theorem dL_fights_66 : decode cL_fights 66 = .ok (.iload_n 2, 1) := by decide +kernel
theorem dL_fights_67 : decode cL_fights 67 = .ok (.goto 4, 3) := by decide +kernel
theorem dL_fights_70 : decode cL_fights 70 = .ok (.iload_n 1, 1) := by decide +kernel
theorem dL_fights_71 : decode cL_fights 71 = .ok (.istore 9, 2) := by decide +kernel
theorem dL_fights_73 : decode cL_fights 73 = .ok (.iload 8, 2) := by decide +kernel
theorem dL_fights_75 : decode cL_fights 75 = .ok (.iconst 1, 1) := by decide +kernel
theorem dL_fights_76 : decode cL_fights 76 = .ok (.if_icmp .lt 143, 3) := by decide +kernel
theorem dL_fights_79 : decode cL_fights 79 = .ok (.iload 8, 2) := by decide +kernel
theorem dL_fights_81 : decode cL_fights 81 = .ok (.bipush 20, 2) := by decide +kernel
theorem dL_fights_83 : decode cL_fights 83 = .ok (.if_icmp .gt 136, 3) := by decide +kernel
theorem dL_fights_86 : decode cL_fights 86 = .ok (.aload_n 0, 1) := by decide +kernel
theorem dL_fights_87 : decode cL_fights 87 = .ok (.bipush 6, 2) := by decide +kernel
theorem dL_fights_89 : decode cL_fights 89 = .ok (.invokevirtual 48, 3) := by decide +kernel
theorem dL_fights_92 : decode cL_fights 92 = .ok (.iload 7, 2) := by decide +kernel
theorem dL_fights_94 : decode cL_fights 94 = .ok (.iload 8, 2) := by decide +kernel
theorem dL_fights_96 : decode cL_fights 96 = .ok (.iadd, 1) := by decide +kernel
theorem dL_fights_97 : decode cL_fights 97 = .ok (.if_icmp .ne 122, 3) := by decide +kernel
