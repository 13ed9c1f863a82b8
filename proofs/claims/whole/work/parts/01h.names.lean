theorem dX6_lines_61 : decode cX6_lines 61 = .ok (.iconst 4, 1) := by decide +kernel
theorem dX6_lines_62 : decode cX6_lines 62 = .ok (.iconst 2, 1) := by decide +kernel
theorem dX6_lines_63 : decode cX6_lines 63 = .ok (.iload_n 2, 1) := by decide +kernel
theorem dX6_lines_64 : decode cX6_lines 64 = .ok (.imul, 1) := by decide +kernel
theorem dX6_lines_65 : decode cX6_lines 65 = .ok (.iadd, 1) := by decide +kernel
theorem dX6_lines_66 : decode cX6_lines 66 = .ok (.iconst 1, 1) := by decide +kernel
theorem dX6_lines_67 : decode cX6_lines 67 = .ok (.iadd, 1) := by decide +kernel
theorem dX6_lines_68 : decode cX6_lines 68 = .ok (.iaload, 1) := by decide +kernel
theorem dX6_lines_69 : decode cX6_lines 69 = .ok (.if_icmp .le 23, 3) := by decide +kernel
theorem dX6_lines_72 : decode cX6_lines 72 = .ok (.aload_n 0, 1) := by decide +kernel
theorem dX6_lines_73 : decode cX6_lines 73 = .ok (.getfield 16, 3) := by decide +kernel
theorem dX6_lines_76 : decode cX6_lines 76 = .ok (.iload_n 3, 1) := by decide +kernel
theorem dX6_lines_77 : decode cX6_lines 77 = .ok (.aload_n 0, 1) := by decide +kernel
theorem dX6_lines_78 : decode cX6_lines 78 = .ok (.getfield 16, 3) := by decide +kernel
theorem dX6_lines_81 : decode cX6_lines 81 = .ok (.iload_n 3, 1) := by decide +kernel
theorem dX6_lines_82 : decode cX6_lines 82 = .ok (.iconst 1, 1) := by decide +kernel
theorem dX6_lines_83 : decode cX6_lines 83 = .ok (.isub, 1) := by decide +kernel
theorem dX6_lines_84 : decode cX6_lines 84 = .ok (.iaload, 1) := by decide +kernel
theorem dX6_lines_85 : decode cX6_lines 85 = .ok (.iastore, 1) := by decide +kernel
theorem dX6_lines_86 : decode cX6_lines 86 = .ok (.iinc 3 (-1), 3) := by decide +kernel
theorem dX6_lines_89 : decode cX6_lines 89 = .ok (.goto (-55), 3) := by decide +kernel
theorem dX6_lines_92 : decode cX6_lines 92 = .ok (.aload_n 0, 1) := by decide +kernel
theorem dX6_lines_93 : decode cX6_lines 93 = .ok (.getfield 16, 3) := by decide +kernel
theorem dX6_lines_96 : decode cX6_lines 96 = .ok (.iload_n 3, 1) := by decide +kernel
theorem dX6_lines_97 : decode cX6_lines 97 = .ok (.iload_n 2, 1) := by decide +kernel
theorem dX6_lines_98 : decode cX6_lines 98 = .ok (.iastore, 1) := by decide +kernel
theorem dX6_lines_99 : decode cX6_lines 99 = .ok (.iinc 1 1, 3) := by decide +kernel
theorem dX6_lines_102 : decode cX6_lines 102 = .ok (.iinc 2 1, 3) := by decide +kernel
theorem dX6_lines_105 : decode cX6_lines 105 = .ok (.goto (-101), 3) := by decide +kernel
theorem dX6_lines_108 : decode cX6_lines 108 = .ok (.iload_n 1, 1) := by decide +kernel
theorem dX6_lines_109 : decode cX6_lines 109 = .ok (.ireturn, 1) := by decide +kernel
set_option maxRecDepth 20000 in
theorem ggX6_round_X6_in : GoodIn wsX6_round wsX6_in := goodIn_r _ [8] (by decide +kernel) (by decide +kernel)
set_option maxRecDepth 20000 in
theorem gX6_round_X6_in : GoodIn wsX6_round (va_wsS RX6 55 yX6_in wsX6_in) := goodIn_app (goodIn_of _ (by decide +kernel)) ggX6_round_X6_in
set_option maxRecDepth 20000 in
theorem ggX6_round_X6_records : GoodIn wsX6_round wsX6_records := goodIn_r _ [12, 13, 14, 15, 16, 7, 17, 18, 53, 54, 55, 56, 57, 58, 59, 60, 61, 62, 63, 64, 65] (by decide +kernel) (by decide +kernel)
set_option maxRecDepth 20000 in
theorem gX6_round_X6_records : GoodIn wsX6_round (wsV RX6 74 RX6 yX6_records wsX6_records) := goodIn_app (goodIn_of _ (by decide +kernel)) ggX6_round_X6_records
set_option maxRecDepth 20000 in
theorem ggX6_round_X6_lines : GoodIn wsX6_round wsX6_lines := goodIn_r _ [22, 3, 18, 4, 23, 24, 25, 7, 26, 27, 28, 29, 53, 54, 55, 56, 57, 58, 59, 60, 61, 62, 63, 64, 65] (by decide +kernel) (by decide +kernel)
set_option maxRecDepth 20000 in
theorem gX6_round_X6_lines : GoodIn wsX6_round (wsV RX6 103 RX6 yX6_lines wsX6_lines) := goodIn_app (goodIn_of _ (by decide +kernel)) ggX6_round_X6_lines
set_option maxRecDepth 20000 in
theorem ggX6_round_X6_goesOn : GoodIn wsX6_round wsX6_goesOn := goodIn_r _ [33, 2, 34, 53, 54, 55, 56, 57, 58, 59, 60, 61, 62, 63, 64, 65] (by decide +kernel) (by decide +kernel)
set_option maxRecDepth 20000 in
theorem gX6_round_X6_goesOn : GoodIn wsX6_round (wsV RX6 48 RX6 yX6_goesOn wsX6_goesOn) := goodIn_app (goodIn_of _ (by decide +kernel)) ggX6_round_X6_goesOn
set_option maxRecDepth 20000 in
theorem ggX6_round_X6_fights : GoodIn wsX6_round wsX6_fights := goodIn_r _ [38, 18, 2, 39, 40, 7, 41, 27, 28, 29, 30, 31, 32, 33, 34, 42, 43, 44, 45, 46, 47, 48, 49, 50, 51, 52, 53, 54, 55, 56, 57, 58, 59, 60, 61, 62, 63, 64, 65] (by decide +kernel) (by decide +kernel)
set_option maxRecDepth 20000 in
theorem gX6_round_X6_fights : GoodIn wsX6_round (wsV RX6 97 RX6 yX6_fights wsX6_fights) := goodIn_app (goodIn_of _ (by decide +kernel)) ggX6_round_X6_fights
theorem dX6_round_0 : decode cX6_round 0 = .ok (.iload_n 1, 1) := by decide +kernel
theorem dX6_round_1 : decode cX6_round 1 = .ok (.iconst 0, 1) := by decide +kernel
theorem dX6_round_2 : decode cX6_round 2 = .ok (.ldc 93, 2) := by decide +kernel
theorem dX6_round_4 : decode cX6_round 4 = .ok (.invokestatic 55, 3) := by decide +kernel
theorem dX6_round_7 : decode cX6_round 7 = .ok (.ifCond .ne 6, 3) := by decide +kernel
theorem dX6_round_10 : decode cX6_round 10 = .ok (.bipush (-2), 2) := by decide +kernel
theorem dX6_round_12 : decode cX6_round 12 = .ok (.ireturn, 1) := by decide +kernel
theorem dX6_round_13 : decode cX6_round 13 = .ok (.aload_n 0, 1) := by decide +kernel
theorem dX6_round_14 : decode cX6_round 14 = .ok (.invokevirtual 74, 3) := by decide +kernel
theorem dX6_round_17 : decode cX6_round 17 = .ok (.aload_n 0, 1) := by decide +kernel
theorem dX6_round_18 : decode cX6_round 18 = .ok (.iload_n 1, 1) := by decide +kernel
theorem dX6_round_19 : decode cX6_round 19 = .ok (.putfield 44, 3) := by decide +kernel
theorem dX6_round_22 : decode cX6_round 22 = .ok (.iconst 0, 1) := by decide +kernel
theorem dX6_round_23 : decode cX6_round 23 = .ok (.istore_n 2, 1) := by decide +kernel
theorem dX6_round_24 : decode cX6_round 24 = .ok (.aload_n 0, 1) := by decide +kernel
theorem dX6_round_25 : decode cX6_round 25 = .ok (.invokevirtual 103, 3) := by decide +kernel
theorem dX6_round_28 : decode cX6_round 28 = .ok (.istore_n 3, 1) := by decide +kernel
theorem dX6_round_29 : decode cX6_round 29 = .ok (.iload_n 3, 1) := by decide +kernel
theorem dX6_round_30 : decode cX6_round 30 = .ok (.iconst 1, 1) := by decide +kernel
theorem dX6_round_31 : decode cX6_round 31 = .ok (.if_icmp .le 108, 3) := by decide +kernel
theorem dX6_round_34 : decode cX6_round 34 = .ok (.aload_n 0, 1) := by decide +kernel
theorem dX6_round_35 : decode cX6_round 35 = .ok (.invokevirtual 48, 3) := by decide +kernel
theorem dX6_round_38 : decode cX6_round 38 = .ok (.iconst 1, 1) := by decide +kernel
theorem dX6_round_39 : decode cX6_round 39 = .ok (.aload_n 0, 1) := by decide +kernel
theorem dX6_round_40 : decode cX6_round 40 = .ok (.getfield 44, 3) := by decide +kernel
theorem dX6_round_43 : decode cX6_round 43 = .ok (.iload_n 3, 1) := by decide +kernel
theorem dX6_round_44 : decode cX6_round 44 = .ok (.iconst 1, 1) := by decide +kernel
theorem dX6_round_45 : decode cX6_round 45 = .ok (.isub, 1) := by decide +kernel
theorem dX6_round_46 : decode cX6_round 46 = .ok (.irem, 1) := by decide +kernel
theorem dX6_round_47 : decode cX6_round 47 = .ok (.iadd, 1) := by decide +kernel
theorem dX6_round_48 : decode cX6_round 48 = .ok (.istore 4, 2) := by decide +kernel
theorem dX6_round_50 : decode cX6_round 50 = .ok (.aload_n 0, 1) := by decide +kernel
theorem dX6_round_51 : decode cX6_round 51 = .ok (.getfield 19, 3) := by decide +kernel
theorem dX6_round_54 : decode cX6_round 54 = .ok (.aload_n 0, 1) := by decide +kernel
theorem dX6_round_55 : decode cX6_round 55 = .ok (.getfield 16, 3) := by decide +kernel
theorem dX6_round_58 : decode cX6_round 58 = .ok (.iconst 0, 1) := by decide +kernel
theorem dX6_round_59 : decode cX6_round 59 = .ok (.iaload, 1) := by decide +kernel
theorem dX6_round_60 : decode cX6_round 60 = .ok (.iaload, 1) := by decide +kernel
theorem dX6_round_61 : decode cX6_round 61 = .ok (.istore 5, 2) := by decide +kernel
theorem dX6_round_63 : decode cX6_round 63 = .ok (.aload_n 0, 1) := by decide +kernel
theorem dX6_round_64 : decode cX6_round 64 = .ok (.getfield 19, 3) := by decide +kernel
theorem dX6_round_67 : decode cX6_round 67 = .ok (.aload_n 0, 1) := by decide +kernel
theorem dX6_round_68 : decode cX6_round 68 = .ok (.getfield 16, 3) := by decide +kernel
theorem dX6_round_71 : decode cX6_round 71 = .ok (.iload 4, 2) := by decide +kernel
theorem dX6_round_73 : decode cX6_round 73 = .ok (.iaload, 1) := by decide +kernel
theorem dX6_round_74 : decode cX6_round 74 = .ok (.iaload, 1) := by decide +kernel
theorem dX6_round_75 : decode cX6_round 75 = .ok (.istore 6, 2) := by decide +kernel
theorem dX6_round_77 : decode cX6_round 77 = .ok (.iconst 0, 1) := by decide +kernel
theorem dX6_round_78 : decode cX6_round 78 = .ok (.istore 7, 2) := by decide +kernel
theorem dX6_round_80 : decode cX6_round 80 = .ok (.iconst 1, 1) := by decide +kernel
theorem dX6_round_81 : decode cX6_round 81 = .ok (.istore 8, 2) := by decide +kernel
theorem dX6_round_83 : decode cX6_round 83 = .ok (.iload 8, 2) := by decide +kernel
theorem dX6_round_85 : decode cX6_round 85 = .ok (.iload_n 3, 1) := by decide +kernel
theorem dX6_round_86 : decode cX6_round 86 = .ok (.if_icmp .ge 33, 3) := by decide +kernel
theorem dX6_round_89 : decode cX6_round 89 = .ok (.iload 8, 2) := by decide +kernel
theorem dX6_round_91 : decode cX6_round 91 = .ok (.iload 4, 2) := by decide +kernel
theorem dX6_round_93 : decode cX6_round 93 = .ok (.if_icmp .eq 20, 3) := by decide +kernel
theorem dX6_round_96 : decode cX6_round 96 = .ok (.aload_n 0, 1) := by decide +kernel
theorem dX6_round_97 : decode cX6_round 97 = .ok (.getfield 16, 3) := by decide +kernel
theorem dX6_round_100 : decode cX6_round 100 = .ok (.iload 7, 2) := by decide +kernel
theorem dX6_round_102 : decode cX6_round 102 = .ok (.aload_n 0, 1) := by decide +kernel
theorem dX6_round_103 : decode cX6_round 103 = .ok (.getfield 16, 3) := by decide +kernel
theorem dX6_round_106 : decode cX6_round 106 = .ok (.iload 8, 2) := by decide +kernel
theorem dX6_round_108 : decode cX6_round 108 = .ok (.iaload, 1) := by decide +kernel
theorem dX6_round_109 : decode cX6_round 109 = .ok (.iastore, 1) := by decide +kernel
theorem dX6_round_110 : decode cX6_round 110 = .ok (.iinc 7 1, 3) := by decide +kernel
theorem dX6_round_113 : decode cX6_round 113 = .ok (.iinc 8 1, 3) := by decide +kernel
theorem dX6_round_116 : decode cX6_round 116 = .ok (.goto (-33), 3) := by decide +kernel
theorem dX6_round_119 : decode cX6_round 119 = .ok (.iload 7, 2) := by decide +kernel
theorem dX6_round_121 : decode cX6_round 121 = .ok (.istore_n 3, 1) := by decide +kernel
theorem dX6_round_122 : decode cX6_round 122 = .ok (.aload_n 0, 1) := by decide +kernel
theorem dX6_round_123 : decode cX6_round 123 = .ok (.iconst 0, 1) := by decide +kernel
theorem dX6_round_124 : decode cX6_round 124 = .ok (.iload 5, 2) := by decide +kernel
theorem dX6_round_126 : decode cX6_round 126 = .ok (.iload 6, 2) := by decide +kernel
theorem dX6_round_128 : decode cX6_round 128 = .ok (.invokevirtual 97, 3) := by decide +kernel
theorem dX6_round_131 : decode cX6_round 131 = .ok (.istore 8, 2) := by decide +kernel
theorem dX6_round_133 : decode cX6_round 133 = .ok (.iinc 2 1, 3) := by decide +kernel
theorem dX6_round_136 : decode cX6_round 136 = .ok (.goto (-107), 3) := by decide +kernel
theorem dX6_round_139 : decode cX6_round 139 = .ok (.iload_n 2, 1) := by decide +kernel
theorem dX6_round_140 : decode cX6_round 140 = .ok (.ireturn, 1) := by decide +kernel
set_option maxRecDepth 20000 in
theorem ggX6_append_X6_in : GoodIn wsX6_append wsX6_in := goodIn_r _ [6] (by decide +kernel) (by decide +kernel)
set_option maxRecDepth 20000 in
theorem gX6_append_X6_in : GoodIn wsX6_append (va_wsS RX6 55 yX6_in wsX6_in) := goodIn_app (goodIn_of _ (by decide +kernel)) ggX6_append_X6_in
theorem dX6_append_0 : decode cX6_append 0 = .ok (.iload_n 1, 1) := by decide +kernel
theorem dX6_append_1 : decode cX6_append 1 = .ok (.bipush 32, 2) := by decide +kernel
theorem dX6_append_3 : decode cX6_append 3 = .ok (.bipush 126, 2) := by decide +kernel
theorem dX6_append_5 : decode cX6_append 5 = .ok (.invokestatic 55, 3) := by decide +kernel
theorem dX6_append_8 : decode cX6_append 8 = .ok (.ifCond .ne 6, 3) := by decide +kernel
theorem dX6_append_11 : decode cX6_append 11 = .ok (.bipush (-2), 2) := by decide +kernel
theorem dX6_append_13 : decode cX6_append 13 = .ok (.ireturn, 1) := by decide +kernel
theorem dX6_append_14 : decode cX6_append 14 = .ok (.aload_n 0, 1) := by decide +kernel
theorem dX6_append_15 : decode cX6_append 15 = .ok (.getfield 107, 3) := by decide +kernel
theorem dX6_append_18 : decode cX6_append 18 = .ok (.bipush 60, 2) := by decide +kernel
theorem dX6_append_20 : decode cX6_append 20 = .ok (.if_icmp .ne 6, 3) := by decide +kernel
theorem dX6_append_23 : decode cX6_append 23 = .ok (.bipush (-3), 2) := by decide +kernel
theorem dX6_append_25 : decode cX6_append 25 = .ok (.ireturn, 1) := by decide +kernel
theorem dX6_append_26 : decode cX6_append 26 = .ok (.aload_n 0, 1) := by decide +kernel
theorem dX6_append_27 : decode cX6_append 27 = .ok (.getfield 13, 3) := by decide +kernel
theorem dX6_append_30 : decode cX6_append 30 = .ok (.aload_n 0, 1) := by decide +kernel
theorem dX6_append_31 : decode cX6_append 31 = .ok (.getfield 107, 3) := by decide +kernel
theorem dX6_append_34 : decode cX6_append 34 = .ok (.iload_n 1, 1) := by decide +kernel
theorem dX6_append_35 : decode cX6_append 35 = .ok (.iastore, 1) := by decide +kernel
theorem dX6_append_36 : decode cX6_append 36 = .ok (.aload_n 0, 1) := by decide +kernel
theorem dX6_append_37 : decode cX6_append 37 = .ok (.dup, 1) := by decide +kernel
theorem dX6_append_38 : decode cX6_append 38 = .ok (.getfield 107, 3) := by decide +kernel
theorem dX6_append_41 : decode cX6_append 41 = .ok (.iconst 1, 1) := by decide +kernel
theorem dX6_append_42 : decode cX6_append 42 = .ok (.iadd, 1) := by decide +kernel
theorem dX6_append_43 : decode cX6_append 43 = .ok (.putfield 107, 3) := by decide +kernel
theorem dX6_append_46 : decode cX6_append 46 = .ok (.aload_n 0, 1) := by decide +kernel
theorem dX6_append_47 : decode cX6_append 47 = .ok (.getfield 107, 3) := by decide +kernel
theorem dX6_append_50 : decode cX6_append 50 = .ok (.ireturn, 1) := by decide +kernel
theorem dX6_clearText_0 : decode cX6_clearText 0 = .ok (.aload_n 0, 1) := by decide +kernel
theorem dX6_clearText_1 : decode cX6_clearText 1 = .ok (.getfield 107, 3) := by decide +kernel
theorem dX6_clearText_4 : decode cX6_clearText 4 = .ok (.istore_n 1, 1) := by decide +kernel
theorem dX6_clearText_5 : decode cX6_clearText 5 = .ok (.aload_n 0, 1) := by decide +kernel
theorem dX6_clearText_6 : decode cX6_clearText 6 = .ok (.iconst 0, 1) := by decide +kernel
theorem dX6_clearText_7 : decode cX6_clearText 7 = .ok (.putfield 107, 3) := by decide +kernel
theorem dX6_clearText_10 : decode cX6_clearText 10 = .ok (.iload_n 1, 1) := by decide +kernel
theorem dX6_clearText_11 : decode cX6_clearText 11 = .ok (.ireturn, 1) := by decide +kernel
set_option maxRecDepth 20000 in
theorem ggX6_isHere_X6_in : GoodIn wsX6_isHere wsX6_in := goodIn_r _ [7] (by decide +kernel) (by decide +kernel)
set_option maxRecDepth 20000 in
theorem gX6_isHere_X6_in : GoodIn wsX6_isHere (va_wsS RX6 55 yX6_in wsX6_in) := goodIn_app (goodIn_of _ (by decide +kernel)) ggX6_isHere_X6_in
theorem dX6_isHere_0 : decode cX6_isHere 0 = .ok (.aload_n 0, 1) := by decide +kernel
theorem dX6_isHere_1 : decode cX6_isHere 1 = .ok (.getfield 110, 3) := by decide +kernel
theorem dX6_isHere_4 : decode cX6_isHere 4 = .ok (.aload_n 0, 1) := by decide +kernel
theorem dX6_isHere_5 : decode cX6_isHere 5 = .ok (.getfield 107, 3) := by decide +kernel
theorem dX6_isHere_8 : decode cX6_isHere 8 = .ok (.if_icmp .ge 24, 3) := by decide +kernel
theorem dX6_isHere_11 : decode cX6_isHere 11 = .ok (.aload_n 0, 1) := by decide +kernel
theorem dX6_isHere_12 : decode cX6_isHere 12 = .ok (.getfield 13, 3) := by decide +kernel
theorem dX6_isHere_15 : decode cX6_isHere 15 = .ok (.aload_n 0, 1) := by decide +kernel
theorem dX6_isHere_16 : decode cX6_isHere 16 = .ok (.getfield 110, 3) := by decide +kernel
theorem dX6_isHere_19 : decode cX6_isHere 19 = .ok (.iaload, 1) := by decide +kernel
theorem dX6_isHere_20 : decode cX6_isHere 20 = .ok (.iload_n 1, 1) := by decide +kernel
theorem dX6_isHere_21 : decode cX6_isHere 21 = .ok (.iload_n 2, 1) := by decide +kernel
theorem dX6_isHere_22 : decode cX6_isHere 22 = .ok (.invokestatic 55, 3) := by decide +kernel
theorem dX6_isHere_25 : decode cX6_isHere 25 = .ok (.ifCond .eq 7, 3) := by decide +kernel
theorem dX6_isHere_28 : decode cX6_isHere 28 = .ok (.iconst 1, 1) := by decide +kernel
theorem dX6_isHere_29 : decode cX6_isHere 29 = .ok (.goto 4, 3) := by decide +kernel
theorem dX6_isHere_32 : decode cX6_isHere 32 = .ok (.iconst 0, 1) := by decide +kernel
theorem dX6_isHere_33 : decode cX6_isHere 33 = .ok (.ireturn, 1) := by decide +kernel
set_option maxRecDepth 20000 in
theorem ggX6_takes_X6_isHere : GoodIn wsX6_takes wsX6_isHere := goodIn_r _ [6, 1, 7, 8, 9, 10, 5, 11, 15, 16, 17, 18, 19, 20, 21, 22, 23, 24, 25, 26, 27] (by decide +kernel) (by decide +kernel)
set_option maxRecDepth 20000 in
theorem gX6_takes_X6_isHere : GoodIn wsX6_takes (wsV RX6 113 RX6 yX6_isHere wsX6_isHere) := goodIn_app (goodIn_of _ (by decide +kernel)) ggX6_takes_X6_isHere
set_option maxRecDepth 20000 in
theorem ggX6_takes_X6_flag : GoodIn wsX6_takes wsX6_flag := goodIn_r _ [14] (by decide +kernel) (by decide +kernel)
set_option maxRecDepth 20000 in
theorem gX6_takes_X6_flag : GoodIn wsX6_takes (va_wsS RX6 40 yX6_flag wsX6_flag) := goodIn_app (goodIn_of _ (by decide +kernel)) ggX6_takes_X6_flag
theorem dX6_takes_0 : decode cX6_takes 0 = .ok (.aload_n 0, 1) := by decide +kernel
theorem dX6_takes_1 : decode cX6_takes 1 = .ok (.iload_n 1, 1) := by decide +kernel
theorem dX6_takes_2 : decode cX6_takes 2 = .ok (.iload_n 1, 1) := by decide +kernel
theorem dX6_takes_3 : decode cX6_takes 3 = .ok (.invokevirtual 113, 3) := by decide +kernel
theorem dX6_takes_6 : decode cX6_takes 6 = .ok (.istore_n 2, 1) := by decide +kernel
theorem dX6_takes_7 : decode cX6_takes 7 = .ok (.aload_n 0, 1) := by decide +kernel
theorem dX6_takes_8 : decode cX6_takes 8 = .ok (.dup, 1) := by decide +kernel
theorem dX6_takes_9 : decode cX6_takes 9 = .ok (.getfield 110, 3) := by decide +kernel
theorem dX6_takes_12 : decode cX6_takes 12 = .ok (.iload_n 2, 1) := by decide +kernel
theorem dX6_takes_13 : decode cX6_takes 13 = .ok (.invokestatic 40, 3) := by decide +kernel
theorem dX6_takes_16 : decode cX6_takes 16 = .ok (.iadd, 1) := by decide +kernel
theorem dX6_takes_17 : decode cX6_takes 17 = .ok (.putfield 110, 3) := by decide +kernel
theorem dX6_takes_20 : decode cX6_takes 20 = .ok (.iload_n 2, 1) := by decide +kernel
theorem dX6_takes_21 : decode cX6_takes 21 = .ok (.ireturn, 1) := by decide +kernel
set_option maxRecDepth 20000 in
theorem ggX6_number_X6_isHere : GoodIn wsX6_number wsX6_isHere := goodIn_r _ [7, 2, 8, 1, 9, 10, 6, 11, 15, 16, 17, 18, 19, 20, 21, 22, 23, 24, 25, 26, 27] (by decide +kernel) (by decide +kernel)
set_option maxRecDepth 20000 in
theorem gX6_number_X6_isHere : GoodIn wsX6_number (wsV RX6 113 RX6 yX6_isHere wsX6_isHere) := goodIn_app (goodIn_of _ (by decide +kernel)) ggX6_number_X6_isHere
set_option maxRecDepth 20000 in
theorem ggX6_number_X6_flag : GoodIn wsX6_number wsX6_flag := goodIn_r _ [14] (by decide +kernel) (by decide +kernel)
set_option maxRecDepth 20000 in
theorem gX6_number_X6_flag : GoodIn wsX6_number (va_wsS RX6 40 yX6_flag wsX6_flag) := goodIn_app (goodIn_of _ (by decide +kernel)) ggX6_number_X6_flag
set_option maxRecDepth 20000 in
theorem ggX6_number_X6_in : GoodIn wsX6_number wsX6_in := goodIn_r _ [11] (by decide +kernel) (by decide +kernel)
set_option maxRecDepth 20000 in
theorem gX6_number_X6_in : GoodIn wsX6_number (va_wsS RX6 55 yX6_in wsX6_in) := goodIn_app (goodIn_of _ (by decide +kernel)) ggX6_number_X6_in
theorem dX6_number_0 : decode cX6_number 0 = .ok (.aload_n 0, 1) := by decide +kernel
theorem dX6_number_1 : decode cX6_number 1 = .ok (.bipush 48, 2) := by decide +kernel
theorem dX6_number_3 : decode cX6_number 3 = .ok (.bipush 57, 2) := by decide +kernel
theorem dX6_number_5 : decode cX6_number 5 = .ok (.invokevirtual 113, 3) := by decide +kernel
theorem dX6_number_8 : decode cX6_number 8 = .ok (.ifCond .eq 18, 3) := by decide +kernel
theorem dX6_number_11 : decode cX6_number 11 = .ok (.aload_n 0, 1) := by decide +kernel
theorem dX6_number_12 : decode cX6_number 12 = .ok (.getfield 13, 3) := by decide +kernel
theorem dX6_number_15 : decode cX6_number 15 = .ok (.aload_n 0, 1) := by decide +kernel
theorem dX6_number_16 : decode cX6_number 16 = .ok (.getfield 110, 3) := by decide +kernel
theorem dX6_number_19 : decode cX6_number 19 = .ok (.iaload, 1) := by decide +kernel
theorem dX6_number_20 : decode cX6_number 20 = .ok (.bipush 48, 2) := by decide +kernel
theorem dX6_number_22 : decode cX6_number 22 = .ok (.isub, 1) := by decide +kernel
theorem dX6_number_23 : decode cX6_number 23 = .ok (.goto 5, 3) := by decide +kernel
theorem dX6_number_26 : decode cX6_number 26 = .ok (.bipush (-5), 2) := by decide +kernel
theorem dX6_number_28 : decode cX6_number 28 = .ok (.istore_n 1, 1) := by decide +kernel
theorem dX6_number_29 : decode cX6_number 29 = .ok (.aload_n 0, 1) := by decide +kernel
theorem dX6_number_30 : decode cX6_number 30 = .ok (.dup, 1) := by decide +kernel
theorem dX6_number_31 : decode cX6_number 31 = .ok (.getfield 110, 3) := by decide +kernel
theorem dX6_number_34 : decode cX6_number 34 = .ok (.iload_n 1, 1) := by decide +kernel
theorem dX6_number_35 : decode cX6_number 35 = .ok (.bipush (-5), 2) := by decide +kernel
theorem dX6_number_37 : decode cX6_number 37 = .ok (.if_icmp .eq 7, 3) := by decide +kernel
theorem dX6_number_40 : decode cX6_number 40 = .ok (.iconst 1, 1) := by decide +kernel
theorem dX6_number_41 : decode cX6_number 41 = .ok (.goto 4, 3) := by decide +kernel
theorem dX6_number_44 : decode cX6_number 44 = .ok (.iconst 0, 1) := by decide +kernel
theorem dX6_number_45 : decode cX6_number 45 = .ok (.invokestatic 40, 3) := by decide +kernel
theorem dX6_number_48 : decode cX6_number 48 = .ok (.iadd, 1) := by decide +kernel
theorem dX6_number_49 : decode cX6_number 49 = .ok (.putfield 110, 3) := by decide +kernel
theorem dX6_number_52 : decode cX6_number 52 = .ok (.iload_n 1, 1) := by decide +kernel
theorem dX6_number_53 : decode cX6_number 53 = .ok (.iconst 1, 1) := by decide +kernel
theorem dX6_number_54 : decode cX6_number 54 = .ok (.iconst 2, 1) := by decide +kernel
theorem dX6_number_55 : decode cX6_number 55 = .ok (.invokestatic 55, 3) := by decide +kernel
theorem dX6_number_58 : decode cX6_number 58 = .ok (.ifCond .eq 42, 3) := by decide +kernel
theorem dX6_number_61 : decode cX6_number 61 = .ok (.aload_n 0, 1) := by decide +kernel
theorem dX6_number_62 : decode cX6_number 62 = .ok (.bipush 48, 2) := by decide +kernel
theorem dX6_number_64 : decode cX6_number 64 = .ok (.bipush 57, 2) := by decide +kernel
theorem dX6_number_66 : decode cX6_number 66 = .ok (.invokevirtual 113, 3) := by decide +kernel
theorem dX6_number_69 : decode cX6_number 69 = .ok (.ifCond .eq 31, 3) := by decide +kernel
theorem dX6_number_72 : decode cX6_number 72 = .ok (.bipush 10, 2) := by decide +kernel
theorem dX6_number_74 : decode cX6_number 74 = .ok (.iload_n 1, 1) := by decide +kernel
theorem dX6_number_75 : decode cX6_number 75 = .ok (.imul, 1) := by decide +kernel
theorem dX6_number_76 : decode cX6_number 76 = .ok (.aload_n 0, 1) := by decide +kernel
theorem dX6_number_77 : decode cX6_number 77 = .ok (.getfield 13, 3) := by decide +kernel
theorem dX6_number_80 : decode cX6_number 80 = .ok (.aload_n 0, 1) := by decide +kernel
theorem dX6_number_81 : decode cX6_number 81 = .ok (.getfield 110, 3) := by decide +kernel
theorem dX6_number_84 : decode cX6_number 84 = .ok (.iaload, 1) := by decide +kernel
theorem dX6_number_85 : decode cX6_number 85 = .ok (.iadd, 1) := by decide +kernel
theorem dX6_number_86 : decode cX6_number 86 = .ok (.bipush 48, 2) := by decide +kernel
theorem dX6_number_88 : decode cX6_number 88 = .ok (.isub, 1) := by decide +kernel
theorem dX6_number_89 : decode cX6_number 89 = .ok (.istore_n 1, 1) := by decide +kernel
theorem dX6_number_90 : decode cX6_number 90 = .ok (.aload_n 0, 1) := by decide +kernel
theorem dX6_number_91 : decode cX6_number 91 = .ok (.dup, 1) := by decide +kernel
theorem dX6_number_92 : decode cX6_number 92 = .ok (.getfield 110, 3) := by decide +kernel
theorem dX6_number_95 : decode cX6_number 95 = .ok (.iconst 1, 1) := by decide +kernel
theorem dX6_number_96 : decode cX6_number 96 = .ok (.iadd, 1) := by decide +kernel
theorem dX6_number_97 : decode cX6_number 97 = .ok (.putfield 110, 3) := by decide +kernel
theorem dX6_number_100 : decode cX6_number 100 = .ok (.iload_n 1, 1) := by decide +kernel
theorem dX6_number_101 : decode cX6_number 101 = .ok (.ireturn, 1) := by decide +kernel
set_option maxRecDepth 20000 in
theorem ggX6_readsOrder_X6_takes : GoodIn wsX6_readsOrder wsX6_takes := goodIn_r _ [11, 5, 12, 13, 14, 10, 15, 16, 4, 17, 18, 19, 20, 21, 22, 27, 28, 29, 30, 31, 32, 33, 34, 35, 36, 37, 38, 39] (by decide +kernel) (by decide +kernel)
set_option maxRecDepth 20000 in
theorem gX6_readsOrder_X6_takes : GoodIn wsX6_readsOrder (wsV RX6 117 RX6 yX6_takes wsX6_takes) := goodIn_app (goodIn_of _ (by decide +kernel)) ggX6_readsOrder_X6_takes
set_option maxRecDepth 20000 in
theorem ggX6_readsOrder_X6_number : GoodIn wsX6_readsOrder wsX6_number := goodIn_r _ [26, 4, 5, 12, 13, 14, 10, 15, 16, 17, 18, 19, 20, 21, 22, 27, 28, 29, 30, 31, 32, 33, 34, 35, 36, 37, 38, 39] (by decide +kernel) (by decide +kernel)
set_option maxRecDepth 20000 in
theorem gX6_readsOrder_X6_number : GoodIn wsX6_readsOrder (wsV RX6 123 RX6 yX6_number wsX6_number) := goodIn_app (goodIn_of _ (by decide +kernel)) ggX6_readsOrder_X6_number
set_option maxRecDepth 20000 in
theorem ggX6_readsOrder_X6_isHere : GoodIn wsX6_readsOrder wsX6_isHere := goodIn_r _ [15, 5, 16, 4, 17, 18, 10, 19, 27, 28, 29, 30, 31, 32, 33, 34, 35, 36, 37, 38, 39] (by decide +kernel) (by decide +kernel)
set_option maxRecDepth 20000 in
theorem gX6_readsOrder_X6_isHere : GoodIn wsX6_readsOrder (wsV RX6 113 RX6 yX6_isHere wsX6_isHere) := goodIn_app (goodIn_of _ (by decide +kernel)) ggX6_readsOrder_X6_isHere
set_option maxRecDepth 20000 in
theorem ggX6_readsOrder_X6_flag : GoodIn wsX6_readsOrder wsX6_flag := goodIn_r _ [22] (by decide +kernel) (by decide +kernel)
set_option maxRecDepth 20000 in
theorem gX6_readsOrder_X6_flag : GoodIn wsX6_readsOrder (va_wsS RX6 40 yX6_flag wsX6_flag) := goodIn_app (goodIn_of _ (by decide +kernel)) ggX6_readsOrder_X6_flag
theorem dX6_readsOrder_0 : decode cX6_readsOrder 0 = .ok (.aload_n 0, 1) := by decide +kernel
theorem dX6_readsOrder_1 : decode cX6_readsOrder 1 = .ok (.aload_n 0, 1) := by decide +kernel
theorem dX6_readsOrder_2 : decode cX6_readsOrder 2 = .ok (.bipush 116, 2) := by decide +kernel
theorem dX6_readsOrder_4 : decode cX6_readsOrder 4 = .ok (.invokevirtual 117, 3) := by decide +kernel
theorem dX6_readsOrder_7 : decode cX6_readsOrder 7 = .ok (.ifCond .eq 8, 3) := by decide +kernel
theorem dX6_readsOrder_10 : decode cX6_readsOrder 10 = .ok (.bipush 116, 2) := by decide +kernel
theorem dX6_readsOrder_12 : decode cX6_readsOrder 12 = .ok (.goto 19, 3) := by decide +kernel
theorem dX6_readsOrder_15 : decode cX6_readsOrder 15 = .ok (.aload_n 0, 1) := by decide +kernel
theorem dX6_readsOrder_16 : decode cX6_readsOrder 16 = .ok (.bipush 115, 2) := by decide +kernel
theorem dX6_readsOrder_18 : decode cX6_readsOrder 18 = .ok (.invokevirtual 117, 3) := by decide +kernel
theorem dX6_readsOrder_21 : decode cX6_readsOrder 21 = .ok (.ifCond .eq 8, 3) := by decide +kernel
theorem dX6_readsOrder_24 : decode cX6_readsOrder 24 = .ok (.bipush 115, 2) := by decide +kernel
theorem dX6_readsOrder_26 : decode cX6_readsOrder 26 = .ok (.goto 5, 3) := by decide +kernel
theorem dX6_readsOrder_29 : decode cX6_readsOrder 29 = .ok (.bipush 120, 2) := by decide +kernel
theorem dX6_readsOrder_31 : decode cX6_readsOrder 31 = .ok (.putfield 120, 3) := by decide +kernel
theorem dX6_readsOrder_34 : decode cX6_readsOrder 34 = .ok (.aload_n 0, 1) := by decide +kernel
theorem dX6_readsOrder_35 : decode cX6_readsOrder 35 = .ok (.aload_n 0, 1) := by decide +kernel
theorem dX6_readsOrder_36 : decode cX6_readsOrder 36 = .ok (.invokevirtual 123, 3) := by decide +kernel
theorem dX6_readsOrder_39 : decode cX6_readsOrder 39 = .ok (.putfield 126, 3) := by decide +kernel
theorem dX6_readsOrder_42 : decode cX6_readsOrder 42 = .ok (.aload_n 0, 1) := by decide +kernel
theorem dX6_readsOrder_43 : decode cX6_readsOrder 43 = .ok (.getfield 120, 3) := by decide +kernel
theorem dX6_readsOrder_46 : decode cX6_readsOrder 46 = .ok (.bipush 120, 2) := by decide +kernel
theorem dX6_readsOrder_48 : decode cX6_readsOrder 48 = .ok (.if_icmp .ne 12, 3) := by decide +kernel
theorem dX6_readsOrder_51 : decode cX6_readsOrder 51 = .ok (.aload_n 0, 1) := by decide +kernel
theorem dX6_readsOrder_52 : decode cX6_readsOrder 52 = .ok (.getfield 126, 3) := by decide +kernel
theorem dX6_readsOrder_55 : decode cX6_readsOrder 55 = .ok (.bipush (-5), 2) := by decide +kernel
theorem dX6_readsOrder_57 : decode cX6_readsOrder 57 = .ok (.if_icmp .ne 18, 3) := by decide +kernel
theorem dX6_readsOrder_60 : decode cX6_readsOrder 60 = .ok (.aload_n 0, 1) := by decide +kernel
theorem dX6_readsOrder_61 : decode cX6_readsOrder 61 = .ok (.getfield 126, 3) := by decide +kernel
theorem dX6_readsOrder_64 : decode cX6_readsOrder 64 = .ok (.bipush (-5), 2) := by decide +kernel
theorem dX6_readsOrder_66 : decode cX6_readsOrder 66 = .ok (.if_icmp .eq 7, 3) := by decide +kernel
theorem dX6_readsOrder_69 : decode cX6_readsOrder 69 = .ok (.iconst 1, 1) := by decide +kernel
theorem dX6_readsOrder_70 : decode cX6_readsOrder 70 = .ok (.goto 4, 3) := by decide +kernel
theorem dX6_readsOrder_73 : decode cX6_readsOrder 73 = .ok (.iconst 0, 1) := by decide +kernel
theorem dX6_readsOrder_74 : decode cX6_readsOrder 74 = .ok (.ireturn, 1) := by decide +kernel
theorem dX6_readsOrder_75 : decode cX6_readsOrder 75 = .ok (.aload_n 0, 1) := by decide +kernel
theorem dX6_readsOrder_76 : decode cX6_readsOrder 76 = .ok (.aload_n 0, 1) := by decide +kernel
theorem dX6_readsOrder_77 : decode cX6_readsOrder 77 = .ok (.bipush 120, 2) := by decide +kernel
theorem dX6_readsOrder_79 : decode cX6_readsOrder 79 = .ok (.invokevirtual 117, 3) := by decide +kernel
theorem dX6_readsOrder_82 : decode cX6_readsOrder 82 = .ok (.ifCond .eq 10, 3) := by decide +kernel
theorem dX6_readsOrder_85 : decode cX6_readsOrder 85 = .ok (.aload_n 0, 1) := by decide +kernel
theorem dX6_readsOrder_86 : decode cX6_readsOrder 86 = .ok (.invokevirtual 123, 3) := by decide +kernel
theorem dX6_readsOrder_89 : decode cX6_readsOrder 89 = .ok (.goto 5, 3) := by decide +kernel
theorem dX6_readsOrder_92 : decode cX6_readsOrder 92 = .ok (.bipush (-5), 2) := by decide +kernel
theorem dX6_readsOrder_94 : decode cX6_readsOrder 94 = .ok (.putfield 129, 3) := by decide +kernel
theorem dX6_readsOrder_97 : decode cX6_readsOrder 97 = .ok (.aload_n 0, 1) := by decide +kernel
theorem dX6_readsOrder_98 : decode cX6_readsOrder 98 = .ok (.aload_n 0, 1) := by decide +kernel
theorem dX6_readsOrder_99 : decode cX6_readsOrder 99 = .ok (.getfield 129, 3) := by decide +kernel
theorem dX6_readsOrder_102 : decode cX6_readsOrder 102 = .ok (.bipush (-5), 2) := by decide +kernel
theorem dX6_readsOrder_104 : decode cX6_readsOrder 104 = .ok (.if_icmp .eq 38, 3) := by decide +kernel
theorem dX6_readsOrder_107 : decode cX6_readsOrder 107 = .ok (.aload_n 0, 1) := by decide +kernel
theorem dX6_readsOrder_108 : decode cX6_readsOrder 108 = .ok (.bipush 58, 2) := by decide +kernel
theorem dX6_readsOrder_110 : decode cX6_readsOrder 110 = .ok (.invokevirtual 117, 3) := by decide +kernel
theorem dX6_readsOrder_113 : decode cX6_readsOrder 113 = .ok (.ifCond .eq 29, 3) := by decide +kernel
theorem dX6_readsOrder_116 : decode cX6_readsOrder 116 = .ok (.aload_n 0, 1) := by decide +kernel
theorem dX6_readsOrder_117 : decode cX6_readsOrder 117 = .ok (.bipush 49, 2) := by decide +kernel
theorem dX6_readsOrder_119 : decode cX6_readsOrder 119 = .ok (.bipush 57, 2) := by decide +kernel
theorem dX6_readsOrder_121 : decode cX6_readsOrder 121 = .ok (.invokevirtual 113, 3) := by decide +kernel
theorem dX6_readsOrder_124 : decode cX6_readsOrder 124 = .ok (.ifCond .eq 18, 3) := by decide +kernel
theorem dX6_readsOrder_127 : decode cX6_readsOrder 127 = .ok (.aload_n 0, 1) := by decide +kernel
theorem dX6_readsOrder_128 : decode cX6_readsOrder 128 = .ok (.getfield 13, 3) := by decide +kernel
theorem dX6_readsOrder_131 : decode cX6_readsOrder 131 = .ok (.aload_n 0, 1) := by decide +kernel
theorem dX6_readsOrder_132 : decode cX6_readsOrder 132 = .ok (.getfield 110, 3) := by decide +kernel
theorem dX6_readsOrder_135 : decode cX6_readsOrder 135 = .ok (.iaload, 1) := by decide +kernel
theorem dX6_readsOrder_136 : decode cX6_readsOrder 136 = .ok (.bipush 48, 2) := by decide +kernel
theorem dX6_readsOrder_138 : decode cX6_readsOrder 138 = .ok (.isub, 1) := by decide +kernel
theorem dX6_readsOrder_139 : decode cX6_readsOrder 139 = .ok (.goto 5, 3) := by decide +kernel
theorem dX6_readsOrder_142 : decode cX6_readsOrder 142 = .ok (.bipush (-5), 2) := by decide +kernel
theorem dX6_readsOrder_144 : decode cX6_readsOrder 144 = .ok (.putfield 132, 3) := by decide +kernel
theorem dX6_readsOrder_147 : decode cX6_readsOrder 147 = .ok (.aload_n 0, 1) := by decide +kernel
theorem dX6_readsOrder_148 : decode cX6_readsOrder 148 = .ok (.dup, 1) := by decide +kernel
theorem dX6_readsOrder_149 : decode cX6_readsOrder 149 = .ok (.getfield 110, 3) := by decide +kernel
theorem dX6_readsOrder_152 : decode cX6_readsOrder 152 = .ok (.aload_n 0, 1) := by decide +kernel
theorem dX6_readsOrder_153 : decode cX6_readsOrder 153 = .ok (.getfield 132, 3) := by decide +kernel
theorem dX6_readsOrder_156 : decode cX6_readsOrder 156 = .ok (.bipush (-5), 2) := by decide +kernel
theorem dX6_readsOrder_158 : decode cX6_readsOrder 158 = .ok (.if_icmp .eq 7, 3) := by decide +kernel
theorem dX6_readsOrder_161 : decode cX6_readsOrder 161 = .ok (.iconst 1, 1) := by decide +kernel
theorem dX6_readsOrder_162 : decode cX6_readsOrder 162 = .ok (.goto 4, 3) := by decide +kernel
theorem dX6_readsOrder_165 : decode cX6_readsOrder 165 = .ok (.iconst 0, 1) := by decide +kernel
theorem dX6_readsOrder_166 : decode cX6_readsOrder 166 = .ok (.invokestatic 40, 3) := by decide +kernel
theorem dX6_readsOrder_169 : decode cX6_readsOrder 169 = .ok (.iadd, 1) := by decide +kernel
theorem dX6_readsOrder_170 : decode cX6_readsOrder 170 = .ok (.putfield 110, 3) := by decide +kernel
theorem dX6_readsOrder_173 : decode cX6_readsOrder 173 = .ok (.aload_n 0, 1) := by decide +kernel
theorem dX6_readsOrder_174 : decode cX6_readsOrder 174 = .ok (.getfield 132, 3) := by decide +kernel
theorem dX6_readsOrder_177 : decode cX6_readsOrder 177 = .ok (.bipush (-5), 2) := by decide +kernel
theorem dX6_readsOrder_179 : decode cX6_readsOrder 179 = .ok (.if_icmp .eq 7, 3) := by decide +kernel
theorem dX6_readsOrder_182 : decode cX6_readsOrder 182 = .ok (.iconst 1, 1) := by decide +kernel
theorem dX6_readsOrder_183 : decode cX6_readsOrder 183 = .ok (.goto 4, 3) := by decide +kernel
theorem dX6_readsOrder_186 : decode cX6_readsOrder 186 = .ok (.iconst 0, 1) := by decide +kernel
theorem dX6_readsOrder_187 : decode cX6_readsOrder 187 = .ok (.ireturn, 1) := by decide +kernel
set_option maxRecDepth 20000 in
theorem ggX6_fault_X6_readsOrder : GoodIn wsX6_fault wsX6_readsOrder := goodIn_r _ [7, 8, 9, 10, 11, 1, 12, 13, 14, 15, 6, 16, 17, 18, 19, 20, 2, 21, 22, 23, 24, 25, 26, 27, 28, 29, 30, 31, 32, 33, 34, 35, 36, 37, 38, 39, 40, 41, 42, 43] (by decide +kernel) (by decide +kernel)
set_option maxRecDepth 20000 in
theorem gX6_fault_X6_readsOrder : GoodIn wsX6_fault (wsV RX6 135 RX6 yX6_readsOrder wsX6_readsOrder) := goodIn_app (goodIn_of _ (by decide +kernel)) ggX6_fault_X6_readsOrder
set_option maxRecDepth 20000 in
theorem ggX6_fault_X6_takes : GoodIn wsX6_fault wsX6_takes := goodIn_r _ [16, 1, 17, 18, 19, 6, 20, 2, 11, 21, 22, 23, 24, 25, 26, 31, 32, 33, 34, 35, 36, 37, 38, 39, 40, 41, 42, 43] (by decide +kernel) (by decide +kernel)
set_option maxRecDepth 20000 in
theorem gX6_fault_X6_takes : GoodIn wsX6_fault (wsV RX6 117 RX6 yX6_takes wsX6_takes) := goodIn_app (goodIn_of _ (by decide +kernel)) ggX6_fault_X6_takes
theorem dX6_fault_0 : decode cX6_fault 0 = .ok (.aload_n 0, 1) := by decide +kernel
theorem dX6_fault_1 : decode cX6_fault 1 = .ok (.iconst 0, 1) := by decide +kernel
theorem dX6_fault_2 : decode cX6_fault 2 = .ok (.putfield 110, 3) := by decide +kernel
theorem dX6_fault_5 : decode cX6_fault 5 = .ok (.iconst 1, 1) := by decide +kernel
theorem dX6_fault_6 : decode cX6_fault 6 = .ok (.istore_n 1, 1) := by decide +kernel
theorem dX6_fault_7 : decode cX6_fault 7 = .ok (.iload_n 1, 1) := by decide +kernel
theorem dX6_fault_8 : decode cX6_fault 8 = .ok (.ifCond .eq 25, 3) := by decide +kernel
theorem dX6_fault_11 : decode cX6_fault 11 = .ok (.aload_n 0, 1) := by decide +kernel
theorem dX6_fault_12 : decode cX6_fault 12 = .ok (.invokevirtual 135, 3) := by decide +kernel
theorem dX6_fault_15 : decode cX6_fault 15 = .ok (.ifCond .ne 8, 3) := by decide +kernel
theorem dX6_fault_18 : decode cX6_fault 18 = .ok (.aload_n 0, 1) := by decide +kernel
theorem dX6_fault_19 : decode cX6_fault 19 = .ok (.getfield 110, 3) := by decide +kernel
theorem dX6_fault_22 : decode cX6_fault 22 = .ok (.ireturn, 1) := by decide +kernel
theorem dX6_fault_23 : decode cX6_fault 23 = .ok (.aload_n 0, 1) := by decide +kernel
theorem dX6_fault_24 : decode cX6_fault 24 = .ok (.bipush 44, 2) := by decide +kernel
theorem dX6_fault_26 : decode cX6_fault 26 = .ok (.invokevirtual 117, 3) := by decide +kernel
theorem dX6_fault_29 : decode cX6_fault 29 = .ok (.istore_n 1, 1) := by decide +kernel
theorem dX6_fault_30 : decode cX6_fault 30 = .ok (.goto (-23), 3) := by decide +kernel
theorem dX6_fault_33 : decode cX6_fault 33 = .ok (.aload_n 0, 1) := by decide +kernel
theorem dX6_fault_34 : decode cX6_fault 34 = .ok (.getfield 110, 3) := by decide +kernel
theorem dX6_fault_37 : decode cX6_fault 37 = .ok (.aload_n 0, 1) := by decide +kernel
theorem dX6_fault_38 : decode cX6_fault 38 = .ok (.getfield 107, 3) := by decide +kernel
theorem dX6_fault_41 : decode cX6_fault 41 = .ok (.if_icmp .ne 8, 3) := by decide +kernel
theorem dX6_fault_44 : decode cX6_fault 44 = .ok (.bipush (-5), 2) := by decide +kernel
theorem dX6_fault_46 : decode cX6_fault 46 = .ok (.goto 7, 3) := by decide +kernel
theorem dX6_fault_49 : decode cX6_fault 49 = .ok (.aload_n 0, 1) := by decide +kernel
theorem dX6_fault_50 : decode cX6_fault 50 = .ok (.getfield 110, 3) := by decide +kernel
theorem dX6_fault_53 : decode cX6_fault 53 = .ok (.ireturn, 1) := by decide +kernel
set_option maxRecDepth 20000 in
theorem ggX6_orderError_X6_mendError : GoodIn wsX6_orderError wsX6_mendError := goodIn_r _ [9, 10, 11, 12, 13, 8, 14, 15, 16, 17, 18, 19, 20, 21, 22, 23, 24, 37, 38, 39, 40, 41, 42, 43, 44, 45, 46, 47, 48, 49] (by decide +kernel) (by decide +kernel)
set_option maxRecDepth 20000 in
theorem gX6_orderError_X6_mendError : GoodIn wsX6_orderError (wsV RX6 81 RX6 yX6_mendError wsX6_mendError) := goodIn_app (goodIn_of _ (by decide +kernel)) ggX6_orderError_X6_mendError
set_option maxRecDepth 20000 in
theorem ggX6_orderError_X6_stampError : GoodIn wsX6_orderError wsX6_stampError := goodIn_r _ [28, 10, 11, 12, 13, 8, 14, 15, 16, 17, 18, 19, 20, 37, 38, 39, 40, 41, 42, 43, 44, 45, 46, 47, 48, 49] (by decide +kernel) (by decide +kernel)
set_option maxRecDepth 20000 in
theorem gX6_orderError_X6_stampError : GoodIn wsX6_orderError (wsV RX6 87 RX6 yX6_stampError wsX6_stampError) := goodIn_app (goodIn_of _ (by decide +kernel)) ggX6_orderError_X6_stampError
set_option maxRecDepth 20000 in
theorem ggX6_orderError_X6_strikeError : GoodIn wsX6_orderError wsX6_strikeError := goodIn_r _ [32, 15, 16, 8, 17, 33, 34, 35, 36, 10, 11, 12, 13, 14, 18, 19, 20, 37, 38, 39, 40, 41, 42, 43, 44, 45, 46, 47, 48, 49] (by decide +kernel) (by decide +kernel)
set_option maxRecDepth 20000 in
theorem gX6_orderError_X6_strikeError : GoodIn wsX6_orderError (wsV RX6 77 RX6 yX6_strikeError wsX6_strikeError) := goodIn_app (goodIn_of _ (by decide +kernel)) ggX6_orderError_X6_strikeError
theorem dX6_orderError_0 : decode cX6_orderError 0 = .ok (.aload_n 0, 1) := by decide +kernel
theorem dX6_orderError_1 : decode cX6_orderError 1 = .ok (.getfield 120, 3) := by decide +kernel
theorem dX6_orderError_4 : decode cX6_orderError 4 = .ok (.bipush 116, 2) := by decide +kernel
theorem dX6_orderError_6 : decode cX6_orderError 6 = .ok (.if_icmp .ne 14, 3) := by decide +kernel
theorem dX6_orderError_9 : decode cX6_orderError 9 = .ok (.aload_n 0, 1) := by decide +kernel
theorem dX6_orderError_10 : decode cX6_orderError 10 = .ok (.aload_n 0, 1) := by decide +kernel
theorem dX6_orderError_11 : decode cX6_orderError 11 = .ok (.getfield 126, 3) := by decide +kernel
theorem dX6_orderError_14 : decode cX6_orderError 14 = .ok (.invokevirtual 81, 3) := by decide +kernel
theorem dX6_orderError_17 : decode cX6_orderError 17 = .ok (.goto 39, 3) := by decide +kernel
theorem dX6_orderError_20 : decode cX6_orderError 20 = .ok (.aload_n 0, 1) := by decide +kernel
theorem dX6_orderError_21 : decode cX6_orderError 21 = .ok (.getfield 120, 3) := by decide +kernel
theorem dX6_orderError_24 : decode cX6_orderError 24 = .ok (.bipush 115, 2) := by decide +kernel
theorem dX6_orderError_26 : decode cX6_orderError 26 = .ok (.if_icmp .ne 14, 3) := by decide +kernel
theorem dX6_orderError_29 : decode cX6_orderError 29 = .ok (.aload_n 0, 1) := by decide +kernel
theorem dX6_orderError_30 : decode cX6_orderError 30 = .ok (.aload_n 0, 1) := by decide +kernel
theorem dX6_orderError_31 : decode cX6_orderError 31 = .ok (.getfield 126, 3) := by decide +kernel
theorem dX6_orderError_34 : decode cX6_orderError 34 = .ok (.invokevirtual 87, 3) := by decide +kernel
theorem dX6_orderError_37 : decode cX6_orderError 37 = .ok (.goto 19, 3) := by decide +kernel
theorem dX6_orderError_40 : decode cX6_orderError 40 = .ok (.aload_n 0, 1) := by decide +kernel
theorem dX6_orderError_41 : decode cX6_orderError 41 = .ok (.aload_n 0, 1) := by decide +kernel
theorem dX6_orderError_42 : decode cX6_orderError 42 = .ok (.getfield 126, 3) := by decide +kernel
theorem dX6_orderError_45 : decode cX6_orderError 45 = .ok (.aload_n 0, 1) := by decide +kernel
theorem dX6_orderError_46 : decode cX6_orderError 46 = .ok (.getfield 129, 3) := by decide +kernel
theorem dX6_orderError_49 : decode cX6_orderError 49 = .ok (.aload_n 0, 1) := by decide +kernel
theorem dX6_orderError_50 : decode cX6_orderError 50 = .ok (.getfield 132, 3) := by decide +kernel
theorem dX6_orderError_53 : decode cX6_orderError 53 = .ok (.invokevirtual 77, 3) := by decide +kernel
theorem dX6_orderError_56 : decode cX6_orderError 56 = .ok (.ireturn, 1) := by decide +kernel
set_option maxRecDepth 20000 in
theorem ggX6_does_X6_mends : GoodIn wsX6_does wsX6_mends := goodIn_r _ [9, 10, 11, 12, 8, 13, 14, 15, 16, 17, 36, 37, 38, 39, 40, 41, 42, 43, 44, 45, 46, 47, 48] (by decide +kernel) (by decide +kernel)
set_option maxRecDepth 20000 in
theorem gX6_does_X6_mends : GoodIn wsX6_does (wsV RX6 84 RX6 yX6_mends wsX6_mends) := goodIn_app (goodIn_of _ (by decide +kernel)) ggX6_does_X6_mends
set_option maxRecDepth 20000 in
theorem ggX6_does_X6_stamps : GoodIn wsX6_does wsX6_stamps := goodIn_r _ [21, 10, 11, 12, 8, 13, 22, 23, 24, 25, 36, 37, 38, 39, 40, 41, 42, 43, 44, 45, 46, 47, 48] (by decide +kernel) (by decide +kernel)
set_option maxRecDepth 20000 in
theorem gX6_does_X6_stamps : GoodIn wsX6_does (wsV RX6 90 RX6 yX6_stamps wsX6_stamps) := goodIn_app (goodIn_of _ (by decide +kernel)) ggX6_does_X6_stamps
set_option maxRecDepth 20000 in
theorem ggX6_does_X6_strikes : GoodIn wsX6_does wsX6_strikes := goodIn_r _ [29, 10, 11, 12, 8, 13, 30, 31, 32, 22, 23, 24, 25, 33, 34, 35, 36, 37, 38, 39, 40, 41, 42, 43, 44, 45, 46, 47, 48] (by decide +kernel) (by decide +kernel)
set_option maxRecDepth 20000 in
theorem gX6_does_X6_strikes : GoodIn wsX6_does (wsV RX6 51 RX6 yX6_strikes wsX6_strikes) := goodIn_app (goodIn_of _ (by decide +kernel)) ggX6_does_X6_strikes
theorem dX6_does_0 : decode cX6_does 0 = .ok (.aload_n 0, 1) := by decide +kernel
theorem dX6_does_1 : decode cX6_does 1 = .ok (.getfield 120, 3) := by decide +kernel
theorem dX6_does_4 : decode cX6_does 4 = .ok (.bipush 116, 2) := by decide +kernel
theorem dX6_does_6 : decode cX6_does 6 = .ok (.if_icmp .ne 14, 3) := by decide +kernel
theorem dX6_does_9 : decode cX6_does 9 = .ok (.aload_n 0, 1) := by decide +kernel
theorem dX6_does_10 : decode cX6_does 10 = .ok (.aload_n 0, 1) := by decide +kernel
theorem dX6_does_11 : decode cX6_does 11 = .ok (.getfield 126, 3) := by decide +kernel
theorem dX6_does_14 : decode cX6_does 14 = .ok (.invokevirtual 84, 3) := by decide +kernel
theorem dX6_does_17 : decode cX6_does 17 = .ok (.goto 40, 3) := by decide +kernel
theorem dX6_does_20 : decode cX6_does 20 = .ok (.aload_n 0, 1) := by decide +kernel
theorem dX6_does_21 : decode cX6_does 21 = .ok (.getfield 120, 3) := by decide +kernel
theorem dX6_does_24 : decode cX6_does 24 = .ok (.bipush 115, 2) := by decide +kernel
theorem dX6_does_26 : decode cX6_does 26 = .ok (.if_icmp .ne 14, 3) := by decide +kernel
theorem dX6_does_29 : decode cX6_does 29 = .ok (.aload_n 0, 1) := by decide +kernel
theorem dX6_does_30 : decode cX6_does 30 = .ok (.aload_n 0, 1) := by decide +kernel
theorem dX6_does_31 : decode cX6_does 31 = .ok (.getfield 126, 3) := by decide +kernel
theorem dX6_does_34 : decode cX6_does 34 = .ok (.invokevirtual 90, 3) := by decide +kernel
theorem dX6_does_37 : decode cX6_does 37 = .ok (.goto 20, 3) := by decide +kernel
theorem dX6_does_40 : decode cX6_does 40 = .ok (.aload_n 0, 1) := by decide +kernel
theorem dX6_does_41 : decode cX6_does 41 = .ok (.iconst 0, 1) := by decide +kernel
theorem dX6_does_42 : decode cX6_does 42 = .ok (.aload_n 0, 1) := by decide +kernel
theorem dX6_does_43 : decode cX6_does 43 = .ok (.getfield 126, 3) := by decide +kernel
theorem dX6_does_46 : decode cX6_does 46 = .ok (.aload_n 0, 1) := by decide +kernel
theorem dX6_does_47 : decode cX6_does 47 = .ok (.getfield 129, 3) := by decide +kernel
theorem dX6_does_50 : decode cX6_does 50 = .ok (.aload_n 0, 1) := by decide +kernel
theorem dX6_does_51 : decode cX6_does 51 = .ok (.getfield 132, 3) := by decide +kernel
theorem dX6_does_54 : decode cX6_does 54 = .ok (.invokevirtual 51, 3) := by decide +kernel
theorem dX6_does_57 : decode cX6_does 57 = .ok (.ireturn, 1) := by decide +kernel
set_option maxRecDepth 20000 in
theorem ggX6_run_X6_fault : GoodIn wsX6_run wsX6_fault := goodIn_r _ [6, 1, 7, 8, 9, 10, 5, 11, 12, 13, 14, 15, 16, 17, 18, 19, 20, 21, 22, 23, 24, 25, 26, 27, 28, 29, 30, 31, 32, 33, 34, 99, 100, 101, 102, 103, 104, 105, 106, 107, 108, 109, 110, 111] (by decide +kernel) (by decide +kernel)
set_option maxRecDepth 20000 in
theorem gX6_run_X6_fault : GoodIn wsX6_run (wsV RX6 139 RX6 yX6_fault wsX6_fault) := goodIn_app (goodIn_of _ (by decide +kernel)) ggX6_run_X6_fault
set_option maxRecDepth 20000 in
theorem ggX6_run_X6_records : GoodIn wsX6_run wsX6_records := goodIn_r _ [38, 39, 40, 41, 42, 5, 43, 44, 99, 100, 101, 102, 103, 104, 105, 106, 107, 108, 109, 110, 111] (by decide +kernel) (by decide +kernel)
set_option maxRecDepth 20000 in
theorem gX6_run_X6_records : GoodIn wsX6_run (wsV RX6 74 RX6 yX6_records wsX6_records) := goodIn_app (goodIn_of _ (by decide +kernel)) ggX6_run_X6_records
set_option maxRecDepth 20000 in
theorem ggX6_run_X6_readsOrder : GoodIn wsX6_run wsX6_readsOrder := goodIn_r _ [11, 12, 13, 14, 15, 1, 16, 17, 18, 19, 5, 20, 21, 22, 23, 24, 7, 25, 26, 27, 28, 29, 30, 31, 32, 33, 34, 99, 100, 101, 102, 103, 104, 105, 106, 107, 108, 109, 110, 111] (by decide +kernel) (by decide +kernel)
set_option maxRecDepth 20000 in
theorem gX6_run_X6_readsOrder : GoodIn wsX6_run (wsV RX6 135 RX6 yX6_readsOrder wsX6_readsOrder) := goodIn_app (goodIn_of _ (by decide +kernel)) ggX6_run_X6_readsOrder
set_option maxRecDepth 20000 in
theorem ggX6_run_X6_orderError : GoodIn wsX6_run wsX6_orderError := goodIn_r _ [48, 12, 13, 14, 16, 49, 50, 51, 5, 52, 44, 53, 54, 55, 56, 25, 26, 27, 57, 58, 59, 60, 61, 62, 63, 64, 65, 66, 67, 68, 69, 70, 71, 72, 73, 74, 75, 99, 100, 101, 102, 103, 104, 105, 106, 107, 108, 109, 110, 111] (by decide +kernel) (by decide +kernel)
set_option maxRecDepth 20000 in
theorem gX6_run_X6_orderError : GoodIn wsX6_run (wsV RX6 142 RX6 yX6_orderError wsX6_orderError) := goodIn_app (goodIn_of _ (by decide +kernel)) ggX6_run_X6_orderError
set_option maxRecDepth 20000 in
theorem ggX6_run_X6_does : GoodIn wsX6_run wsX6_does := goodIn_r _ [79, 12, 13, 14, 16, 80, 81, 82, 5, 83, 44, 57, 58, 59, 60, 61, 62, 63, 84, 85, 86, 87, 88, 89, 90, 91, 92, 93, 94, 95, 96, 97, 98, 28, 29, 30, 99, 100, 101, 102, 103, 104, 105, 106, 107, 108, 109, 110, 111] (by decide +kernel) (by decide +kernel)
set_option maxRecDepth 20000 in
theorem gX6_run_X6_does : GoodIn wsX6_run (wsV RX6 145 RX6 yX6_does wsX6_does) := goodIn_app (goodIn_of _ (by decide +kernel)) ggX6_run_X6_does
set_option maxRecDepth 20000 in
theorem ggX6_run_X6_flag : GoodIn wsX6_run wsX6_flag := goodIn_r _ [30] (by decide +kernel) (by decide +kernel)
set_option maxRecDepth 20000 in
theorem gX6_run_X6_flag : GoodIn wsX6_run (va_wsS RX6 40 yX6_flag wsX6_flag) := goodIn_app (goodIn_of _ (by decide +kernel)) ggX6_run_X6_flag
set_option maxRecDepth 20000 in
theorem ggX6_run_X6_takes : GoodIn wsX6_run wsX6_takes := goodIn_r _ [20, 1, 21, 22, 23, 5, 24, 7, 15, 25, 26, 27, 28, 29, 30, 99, 100, 101, 102, 103, 104, 105, 106, 107, 108, 109, 110, 111] (by decide +kernel) (by decide +kernel)
set_option maxRecDepth 20000 in
theorem gX6_run_X6_takes : GoodIn wsX6_run (wsV RX6 117 RX6 yX6_takes wsX6_takes) := goodIn_app (goodIn_of _ (by decide +kernel)) ggX6_run_X6_takes
theorem dX6_run_0 : decode cX6_run 0 = .ok (.aload_n 0, 1) := by decide +kernel
theorem dX6_run_1 : decode cX6_run 1 = .ok (.invokevirtual 139, 3) := by decide +kernel
theorem dX6_run_4 : decode cX6_run 4 = .ok (.istore_n 1, 1) := by decide +kernel
theorem dX6_run_5 : decode cX6_run 5 = .ok (.iload_n 1, 1) := by decide +kernel
theorem dX6_run_6 : decode cX6_run 6 = .ok (.bipush (-5), 2) := by decide +kernel
theorem dX6_run_8 : decode cX6_run 8 = .ok (.if_icmp .eq 8, 3) := by decide +kernel
theorem dX6_run_11 : decode cX6_run 11 = .ok (.bipush (-100), 2) := by decide +kernel
theorem dX6_run_13 : decode cX6_run 13 = .ok (.iload_n 1, 1) := by decide +kernel
theorem dX6_run_14 : decode cX6_run 14 = .ok (.isub, 1) := by decide +kernel
theorem dX6_run_15 : decode cX6_run 15 = .ok (.ireturn, 1) := by decide +kernel
theorem dX6_run_16 : decode cX6_run 16 = .ok (.aload_n 0, 1) := by decide +kernel
theorem dX6_run_17 : decode cX6_run 17 = .ok (.invokevirtual 74, 3) := by decide +kernel
theorem dX6_run_20 : decode cX6_run 20 = .ok (.aload_n 0, 1) := by decide +kernel
theorem dX6_run_21 : decode cX6_run 21 = .ok (.iconst 0, 1) := by decide +kernel
theorem dX6_run_22 : decode cX6_run 22 = .ok (.putfield 110, 3) := by decide +kernel
theorem dX6_run_25 : decode cX6_run 25 = .ok (.iconst 0, 1) := by decide +kernel
theorem dX6_run_26 : decode cX6_run 26 = .ok (.istore_n 2, 1) := by decide +kernel
theorem dX6_run_27 : decode cX6_run 27 = .ok (.iconst 1, 1) := by decide +kernel
theorem dX6_run_28 : decode cX6_run 28 = .ok (.istore_n 3, 1) := by decide +kernel
theorem dX6_run_29 : decode cX6_run 29 = .ok (.iload_n 3, 1) := by decide +kernel
theorem dX6_run_30 : decode cX6_run 30 = .ok (.ifCond .eq 71, 3) := by decide +kernel
theorem dX6_run_33 : decode cX6_run 33 = .ok (.aload_n 0, 1) := by decide +kernel
theorem dX6_run_34 : decode cX6_run 34 = .ok (.invokevirtual 135, 3) := by decide +kernel
theorem dX6_run_37 : decode cX6_run 37 = .ok (.ifCond .eq 14, 3) := by decide +kernel
theorem dX6_run_40 : decode cX6_run 40 = .ok (.aload_n 0, 1) := by decide +kernel
theorem dX6_run_41 : decode cX6_run 41 = .ok (.invokevirtual 142, 3) := by decide +kernel
theorem dX6_run_44 : decode cX6_run 44 = .ok (.ifCond .ne 7, 3) := by decide +kernel
theorem dX6_run_47 : decode cX6_run 47 = .ok (.iconst 1, 1) := by decide +kernel
theorem dX6_run_48 : decode cX6_run 48 = .ok (.goto 4, 3) := by decide +kernel
theorem dX6_run_51 : decode cX6_run 51 = .ok (.iconst 0, 1) := by decide +kernel
theorem dX6_run_52 : decode cX6_run 52 = .ok (.istore 4, 2) := by decide +kernel
theorem dX6_run_54 : decode cX6_run 54 = .ok (.iload 4, 2) := by decide +kernel
theorem dX6_run_56 : decode cX6_run 56 = .ok (.ifCond .eq 10, 3) := by decide +kernel
theorem dX6_run_59 : decode cX6_run 59 = .ok (.aload_n 0, 1) := by decide +kernel
theorem dX6_run_60 : decode cX6_run 60 = .ok (.invokevirtual 145, 3) := by decide +kernel
theorem dX6_run_63 : decode cX6_run 63 = .ok (.goto 5, 3) := by decide +kernel
theorem dX6_run_66 : decode cX6_run 66 = .ok (.bipush (-5), 2) := by decide +kernel
theorem dX6_run_68 : decode cX6_run 68 = .ok (.istore 5, 2) := by decide +kernel
theorem dX6_run_70 : decode cX6_run 70 = .ok (.iload_n 2, 1) := by decide +kernel
theorem dX6_run_71 : decode cX6_run 71 = .ok (.iload 4, 2) := by decide +kernel
theorem dX6_run_73 : decode cX6_run 73 = .ok (.invokestatic 40, 3) := by decide +kernel
theorem dX6_run_76 : decode cX6_run 76 = .ok (.iadd, 1) := by decide +kernel
theorem dX6_run_77 : decode cX6_run 77 = .ok (.istore_n 2, 1) := by decide +kernel
theorem dX6_run_78 : decode cX6_run 78 = .ok (.iload 4, 2) := by decide +kernel
theorem dX6_run_80 : decode cX6_run 80 = .ok (.ifCond .eq 16, 3) := by decide +kernel
theorem dX6_run_83 : decode cX6_run 83 = .ok (.aload_n 0, 1) := by decide +kernel
theorem dX6_run_84 : decode cX6_run 84 = .ok (.bipush 44, 2) := by decide +kernel
theorem dX6_run_86 : decode cX6_run 86 = .ok (.invokevirtual 117, 3) := by decide +kernel
theorem dX6_run_89 : decode cX6_run 89 = .ok (.ifCond .eq 7, 3) := by decide +kernel
theorem dX6_run_92 : decode cX6_run 92 = .ok (.iconst 1, 1) := by decide +kernel
theorem dX6_run_93 : decode cX6_run 93 = .ok (.goto 4, 3) := by decide +kernel
theorem dX6_run_96 : decode cX6_run 96 = .ok (.iconst 0, 1) := by decide +kernel
theorem dX6_run_97 : decode cX6_run 97 = .ok (.istore_n 3, 1) := by decide +kernel
theorem dX6_run_98 : decode cX6_run 98 = .ok (.goto (-69), 3) := by decide +kernel
theorem dX6_run_101 : decode cX6_run 101 = .ok (.iload_n 2, 1) := by decide +kernel
theorem dX6_run_102 : decode cX6_run 102 = .ok (.ireturn, 1) := by decide +kernel
set_option maxRecDepth 20000 in
theorem ggX6_undo_X6_copies : GoodIn wsX6_undo wsX6_copies := goodIn_r _ [6, 7, 8, 9, 10, 11, 12, 13, 14, 15, 16, 17, 18, 19, 20] (by decide +kernel) (by decide +kernel)
set_option maxRecDepth 20000 in
theorem gX6_undo_X6_copies : GoodIn wsX6_undo (wsV RX6 26 RX6 yX6_copies wsX6_copies) := goodIn_app (goodIn_of _ (by decide +kernel)) ggX6_undo_X6_copies
theorem dX6_undo_0 : decode cX6_undo 0 = .ok (.aload_n 0, 1) := by decide +kernel
theorem dX6_undo_1 : decode cX6_undo 1 = .ok (.getfield 22, 3) := by decide +kernel
theorem dX6_undo_4 : decode cX6_undo 4 = .ok (.ifCond .ne 6, 3) := by decide +kernel
theorem dX6_undo_7 : decode cX6_undo 7 = .ok (.bipush (-5), 2) := by decide +kernel
theorem dX6_undo_9 : decode cX6_undo 9 = .ok (.ireturn, 1) := by decide +kernel
theorem dX6_undo_10 : decode cX6_undo 10 = .ok (.aload_n 0, 1) := by decide +kernel
theorem dX6_undo_11 : decode cX6_undo 11 = .ok (.aload_n 0, 1) := by decide +kernel
theorem dX6_undo_12 : decode cX6_undo 12 = .ok (.getfield 22, 3) := by decide +kernel
theorem dX6_undo_15 : decode cX6_undo 15 = .ok (.iconst 0, 1) := by decide +kernel
theorem dX6_undo_16 : decode cX6_undo 16 = .ok (.invokevirtual 26, 3) := by decide +kernel
theorem dX6_undo_19 : decode cX6_undo 19 = .ok (.aload_n 0, 1) := by decide +kernel
theorem dX6_undo_20 : decode cX6_undo 20 = .ok (.dup, 1) := by decide +kernel
theorem dX6_undo_21 : decode cX6_undo 21 = .ok (.getfield 22, 3) := by decide +kernel
theorem dX6_undo_24 : decode cX6_undo 24 = .ok (.iconst 1, 1) := by decide +kernel
theorem dX6_undo_25 : decode cX6_undo 25 = .ok (.isub, 1) := by decide +kernel
theorem dX6_undo_26 : decode cX6_undo 26 = .ok (.putfield 22, 3) := by decide +kernel
theorem dX6_undo_29 : decode cX6_undo 29 = .ok (.aload_n 0, 1) := by decide +kernel
theorem dX6_undo_30 : decode cX6_undo 30 = .ok (.getfield 22, 3) := by decide +kernel
theorem dX6_undo_33 : decode cX6_undo 33 = .ok (.ireturn, 1) := by decide +kernel
set_option maxRecDepth 20000 in
theorem ggX6_conkers_X6_at : GoodIn wsX6_conkers wsX6_at := goodIn_r _ [5] (by decide +kernel) (by decide +kernel)
set_option maxRecDepth 20000 in
theorem gX6_conkers_X6_at : GoodIn wsX6_conkers (va_wsS RX6 30 yX6_at wsX6_at) := goodIn_app (goodIn_of _ (by decide +kernel)) ggX6_conkers_X6_at
set_option maxRecDepth 20000 in
theorem ggX6_conkers_X6_flag : GoodIn wsX6_conkers wsX6_flag := goodIn_r _ [8] (by decide +kernel) (by decide +kernel)
set_option maxRecDepth 20000 in
theorem gX6_conkers_X6_flag : GoodIn wsX6_conkers (va_wsS RX6 40 yX6_flag wsX6_flag) := goodIn_app (goodIn_of _ (by decide +kernel)) ggX6_conkers_X6_flag
theorem dX6_conkers_0 : decode cX6_conkers 0 = .ok (.iconst 0, 1) := by decide +kernel
theorem dX6_conkers_1 : decode cX6_conkers 1 = .ok (.istore_n 3, 1) := by decide +kernel
theorem dX6_conkers_2 : decode cX6_conkers 2 = .ok (.iconst 0, 1) := by decide +kernel
theorem dX6_conkers_3 : decode cX6_conkers 3 = .ok (.istore 4, 2) := by decide +kernel
theorem dX6_conkers_5 : decode cX6_conkers 5 = .ok (.iload 4, 2) := by decide +kernel
theorem dX6_conkers_7 : decode cX6_conkers 7 = .ok (.aload_n 0, 1) := by decide +kernel
theorem dX6_conkers_8 : decode cX6_conkers 8 = .ok (.getfield 7, 3) := by decide +kernel
theorem dX6_conkers_11 : decode cX6_conkers 11 = .ok (.iconst 0, 1) := by decide +kernel
theorem dX6_conkers_12 : decode cX6_conkers 12 = .ok (.iaload, 1) := by decide +kernel
theorem dX6_conkers_13 : decode cX6_conkers 13 = .ok (.if_icmp .ge 59, 3) := by decide +kernel
theorem dX6_conkers_16 : decode cX6_conkers 16 = .ok (.iconst 0, 1) := by decide +kernel
theorem dX6_conkers_17 : decode cX6_conkers 17 = .ok (.iload 4, 2) := by decide +kernel
theorem dX6_conkers_19 : decode cX6_conkers 19 = .ok (.invokestatic 30, 3) := by decide +kernel
theorem dX6_conkers_22 : decode cX6_conkers 22 = .ok (.istore 5, 2) := by decide +kernel
theorem dX6_conkers_24 : decode cX6_conkers 24 = .ok (.iload_n 3, 1) := by decide +kernel
theorem dX6_conkers_25 : decode cX6_conkers 25 = .ok (.aload_n 0, 1) := by decide +kernel
theorem dX6_conkers_26 : decode cX6_conkers 26 = .ok (.getfield 7, 3) := by decide +kernel
theorem dX6_conkers_29 : decode cX6_conkers 29 = .ok (.iload 5, 2) := by decide +kernel
theorem dX6_conkers_31 : decode cX6_conkers 31 = .ok (.bipush 6, 2) := by decide +kernel
theorem dX6_conkers_33 : decode cX6_conkers 33 = .ok (.iadd, 1) := by decide +kernel
theorem dX6_conkers_34 : decode cX6_conkers 34 = .ok (.iaload, 1) := by decide +kernel
theorem dX6_conkers_35 : decode cX6_conkers 35 = .ok (.iload_n 2, 1) := by decide +kernel
theorem dX6_conkers_36 : decode cX6_conkers 36 = .ok (.if_icmp .ne 24, 3) := by decide +kernel
theorem dX6_conkers_39 : decode cX6_conkers 39 = .ok (.iload_n 1, 1) := by decide +kernel
theorem dX6_conkers_40 : decode cX6_conkers 40 = .ok (.bipush (-5), 2) := by decide +kernel
theorem dX6_conkers_42 : decode cX6_conkers 42 = .ok (.if_icmp .eq 14, 3) := by decide +kernel
theorem dX6_conkers_45 : decode cX6_conkers 45 = .ok (.aload_n 0, 1) := by decide +kernel
theorem dX6_conkers_46 : decode cX6_conkers 46 = .ok (.getfield 7, 3) := by decide +kernel
theorem dX6_conkers_49 : decode cX6_conkers 49 = .ok (.iload 5, 2) := by decide +kernel
theorem dX6_conkers_51 : decode cX6_conkers 51 = .ok (.iaload, 1) := by decide +kernel
theorem dX6_conkers_52 : decode cX6_conkers 52 = .ok (.iload_n 1, 1) := by decide +kernel
theorem dX6_conkers_53 : decode cX6_conkers 53 = .ok (.if_icmp .ne 7, 3) := by decide +kernel
theorem dX6_conkers_56 : decode cX6_conkers 56 = .ok (.iconst 1, 1) := by decide +kernel
theorem dX6_conkers_57 : decode cX6_conkers 57 = .ok (.goto 4, 3) := by decide +kernel
theorem dX6_conkers_60 : decode cX6_conkers 60 = .ok (.iconst 0, 1) := by decide +kernel
theorem dX6_conkers_61 : decode cX6_conkers 61 = .ok (.invokestatic 40, 3) := by decide +kernel
theorem dX6_conkers_64 : decode cX6_conkers 64 = .ok (.iadd, 1) := by decide +kernel
theorem dX6_conkers_65 : decode cX6_conkers 65 = .ok (.istore_n 3, 1) := by decide +kernel
theorem dX6_conkers_66 : decode cX6_conkers 66 = .ok (.iinc 4 1, 3) := by decide +kernel
theorem dX6_conkers_69 : decode cX6_conkers 69 = .ok (.goto (-64), 3) := by decide +kernel
theorem dX6_conkers_72 : decode cX6_conkers 72 = .ok (.iload_n 3, 1) := by decide +kernel
theorem dX6_conkers_73 : decode cX6_conkers 73 = .ok (.ireturn, 1) := by decide +kernel
set_option maxRecDepth 20000 in
theorem ggX6_save_X6_copies : GoodIn wsX6_save wsX6_copies := goodIn_r _ [6, 7, 18, 19, 20, 21, 22, 23, 24, 25, 26, 27, 28, 29, 30] (by decide +kernel) (by decide +kernel)
set_option maxRecDepth 20000 in
theorem gX6_save_X6_copies : GoodIn wsX6_save (wsV RX6 26 RX6 yX6_copies wsX6_copies) := goodIn_app (goodIn_of _ (by decide +kernel)) ggX6_save_X6_copies
set_option maxRecDepth 20000 in
theorem ggX6_save_X6_conkers : GoodIn wsX6_save wsX6_conkers := goodIn_r _ [11, 7, 12, 13, 5, 14, 15, 16, 17, 18, 19, 20, 21, 22, 23, 24, 25, 26, 27, 28, 29, 30] (by decide +kernel) (by decide +kernel)
set_option maxRecDepth 20000 in
theorem gX6_save_X6_conkers : GoodIn wsX6_save (wsV RX6 152 RX6 yX6_conkers wsX6_conkers) := goodIn_app (goodIn_of _ (by decide +kernel)) ggX6_save_X6_conkers
theorem dX6_save_0 : decode cX6_save 0 = .ok (.aload_n 0, 1) := by decide +kernel
theorem dX6_save_1 : decode cX6_save 1 = .ok (.iconst 0, 1) := by decide +kernel
theorem dX6_save_2 : decode cX6_save 2 = .ok (.bipush 6, 2) := by decide +kernel
theorem dX6_save_4 : decode cX6_save 4 = .ok (.invokevirtual 26, 3) := by decide +kernel
theorem dX6_save_7 : decode cX6_save 7 = .ok (.aload_n 0, 1) := by decide +kernel
theorem dX6_save_8 : decode cX6_save 8 = .ok (.iconst 1, 1) := by decide +kernel
theorem dX6_save_9 : decode cX6_save 9 = .ok (.putfield 148, 3) := by decide +kernel
theorem dX6_save_12 : decode cX6_save 12 = .ok (.aload_n 0, 1) := by decide +kernel
theorem dX6_save_13 : decode cX6_save 13 = .ok (.bipush (-5), 2) := by decide +kernel
theorem dX6_save_15 : decode cX6_save 15 = .ok (.iconst 0, 1) := by decide +kernel
theorem dX6_save_16 : decode cX6_save 16 = .ok (.invokevirtual 152, 3) := by decide +kernel
theorem dX6_save_19 : decode cX6_save 19 = .ok (.ireturn, 1) := by decide +kernel
set_option maxRecDepth 20000 in
theorem ggX6_restore_X6_records : GoodIn wsX6_restore wsX6_records := goodIn_r _ [6, 7, 8, 9, 10, 5, 11, 12, 23, 24, 25, 26, 27, 28, 29, 30, 31, 32, 33, 34, 35] (by decide +kernel) (by decide +kernel)
set_option maxRecDepth 20000 in
theorem gX6_restore_X6_records : GoodIn wsX6_restore (wsV RX6 74 RX6 yX6_records wsX6_records) := goodIn_app (goodIn_of _ (by decide +kernel)) ggX6_restore_X6_records
set_option maxRecDepth 20000 in
theorem ggX6_restore_X6_copies : GoodIn wsX6_restore wsX6_copies := goodIn_r _ [11, 12, 23, 24, 25, 26, 27, 28, 29, 30, 31, 32, 33, 34, 35] (by decide +kernel) (by decide +kernel)
set_option maxRecDepth 20000 in
theorem gX6_restore_X6_copies : GoodIn wsX6_restore (wsV RX6 26 RX6 yX6_copies wsX6_copies) := goodIn_app (goodIn_of _ (by decide +kernel)) ggX6_restore_X6_copies
set_option maxRecDepth 20000 in
theorem ggX6_restore_X6_conkers : GoodIn wsX6_restore wsX6_conkers := goodIn_r _ [16, 12, 17, 18, 5, 19, 20, 21, 22, 23, 24, 25, 26, 27, 28, 29, 30, 31, 32, 33, 34, 35] (by decide +kernel) (by decide +kernel)
set_option maxRecDepth 20000 in
theorem gX6_restore_X6_conkers : GoodIn wsX6_restore (wsV RX6 152 RX6 yX6_conkers wsX6_conkers) := goodIn_app (goodIn_of _ (by decide +kernel)) ggX6_restore_X6_conkers
theorem dX6_restore_0 : decode cX6_restore 0 = .ok (.aload_n 0, 1) := by decide +kernel
theorem dX6_restore_1 : decode cX6_restore 1 = .ok (.getfield 148, 3) := by decide +kernel
theorem dX6_restore_4 : decode cX6_restore 4 = .ok (.ifCond .ne 6, 3) := by decide +kernel
theorem dX6_restore_7 : decode cX6_restore 7 = .ok (.bipush (-4), 2) := by decide +kernel
theorem dX6_restore_9 : decode cX6_restore 9 = .ok (.ireturn, 1) := by decide +kernel
theorem dX6_restore_10 : decode cX6_restore 10 = .ok (.aload_n 0, 1) := by decide +kernel
theorem dX6_restore_11 : decode cX6_restore 11 = .ok (.invokevirtual 74, 3) := by decide +kernel
theorem dX6_restore_14 : decode cX6_restore 14 = .ok (.aload_n 0, 1) := by decide +kernel
theorem dX6_restore_15 : decode cX6_restore 15 = .ok (.bipush 6, 2) := by decide +kernel
theorem dX6_restore_17 : decode cX6_restore 17 = .ok (.iconst 0, 1) := by decide +kernel
theorem dX6_restore_18 : decode cX6_restore 18 = .ok (.invokevirtual 26, 3) := by decide +kernel
theorem dX6_restore_21 : decode cX6_restore 21 = .ok (.aload_n 0, 1) := by decide +kernel
theorem dX6_restore_22 : decode cX6_restore 22 = .ok (.bipush (-5), 2) := by decide +kernel
theorem dX6_restore_24 : decode cX6_restore 24 = .ok (.iconst 0, 1) := by decide +kernel
theorem dX6_restore_25 : decode cX6_restore 25 = .ok (.invokevirtual 152, 3) := by decide +kernel
theorem dX6_restore_28 : decode cX6_restore 28 = .ok (.ireturn, 1) := by decide +kernel
set_option maxRecDepth 20000 in
theorem ggX6_heirOf_X6_at : GoodIn wsX6_heirOf wsX6_at := goodIn_r _ [5] (by decide +kernel) (by decide +kernel)
set_option maxRecDepth 20000 in
theorem gX6_heirOf_X6_at : GoodIn wsX6_heirOf (va_wsS RX6 30 yX6_at wsX6_at) := goodIn_app (goodIn_of _ (by decide +kernel)) ggX6_heirOf_X6_at
