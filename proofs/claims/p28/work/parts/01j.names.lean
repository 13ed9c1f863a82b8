theorem goodIn_cons1 {big b : List Cond} {c : Cond} (ha : GoodIn big [c]) (hb : GoodIn big b) : GoodIn big (c :: b) := fun w h => (List.mem_cons.mp h).elim (fun e => ha w (by rw [e]; exact List.mem_singleton_self _)) (hb w)
theorem dL_fights_100 : decode cL_fights 100 = .ok (.iload 8, 2) := by decide +kernel
theorem dL_fights_102 : decode cL_fights 102 = .ok (.bipush 20, 2) := by decide +kernel
theorem dL_fights_104 : decode cL_fights 104 = .ok (.if_icmp .eq 21, 3) := by decide +kernel
theorem dL_fights_107 : decode cL_fights 107 = .ok (.aload_n 0, 1) := by decide +kernel
theorem dL_fights_108 : decode cL_fights 108 = .ok (.iload_n 1, 1) := by decide +kernel
theorem dL_fights_109 : decode cL_fights 109 = .ok (.bipush 6, 2) := by decide +kernel
theorem dL_fights_111 : decode cL_fights 111 = .ok (.invokevirtual 51, 3) := by decide +kernel
theorem dL_fights_114 : decode cL_fights 114 = .ok (.aload_n 0, 1) := by decide +kernel
theorem dL_fights_115 : decode cL_fights 115 = .ok (.iload_n 2, 1) := by decide +kernel
theorem dL_fights_116 : decode cL_fights 116 = .ok (.bipush 6, 2) := by decide +kernel
theorem dL_fights_118 : decode cL_fights 118 = .ok (.invokevirtual 51, 3) := by decide +kernel
theorem dL_fights_121 : decode cL_fights 121 = .ok (.iadd, 1) := by decide +kernel
theorem dL_fights_122 : decode cL_fights 122 = .ok (.ifCond .le 97, 3) := by decide +kernel
theorem dL_fights_125 : decode cL_fights 125 = .ok (.iload 4, 2) := by decide +kernel
theorem dL_fights_127 : decode cL_fights 127 = .ok (.bipush (-5), 2) := by decide +kernel
theorem dL_fights_129 : decode cL_fights 129 = .ok (.if_icmp .ne 30, 3) := by decide +kernel
theorem dL_fights_132 : decode cL_fights 132 = .ok (.aload_n 0, 1) := by decide +kernel
theorem dL_fights_133 : decode cL_fights 133 = .ok (.iload_n 1, 1) := by decide +kernel
theorem dL_fights_134 : decode cL_fights 134 = .ok (.bipush 7, 2) := by decide +kernel
theorem dL_fights_136 : decode cL_fights 136 = .ok (.invokevirtual 51, 3) := by decide +kernel
theorem dL_fights_139 : decode cL_fights 139 = .ok (.iload 4, 2) := by decide +kernel
theorem dL_fights_141 : decode cL_fights 141 = .ok (.if_icmp .ne 78, 3) := by decide +kernel
theorem dL_fights_144 : decode cL_fights 144 = .ok (.aload_n 0, 1) := by decide +kernel
theorem dL_fights_145 : decode cL_fights 145 = .ok (.iload_n 2, 1) := by decide +kernel
theorem dL_fights_146 : decode cL_fights 146 = .ok (.bipush 7, 2) := by decide +kernel
theorem dL_fights_148 : decode cL_fights 148 = .ok (.invokevirtual 51, 3) := by decide +kernel
theorem dL_fights_151 : decode cL_fights 151 = .ok (.iload 4, 2) := by decide +kernel
theorem dL_fights_153 : decode cL_fights 153 = .ok (.if_icmp .ne 66, 3) := by decide +kernel
theorem dL_fights_156 : decode cL_fights 156 = .ok (.goto 52, 3) := by decide +kernel
theorem dL_fights_159 : decode cL_fights 159 = .ok (.iload 4, 2) := by decide +kernel
theorem dL_fights_161 : decode cL_fights 161 = .ok (.iload_n 1, 1) := by decide +kernel
theorem dL_fights_162 : decode cL_fights 162 = .ok (.if_icmp .eq 9, 3) := by decide +kernel
theorem dL_fights_165 : decode cL_fights 165 = .ok (.iload 4, 2) := by decide +kernel
theorem dL_fights_167 : decode cL_fights 167 = .ok (.iload_n 2, 1) := by decide +kernel
theorem dL_fights_168 : decode cL_fights 168 = .ok (.if_icmp .ne 51, 3) := by decide +kernel
theorem dL_fights_171 : decode cL_fights 171 = .ok (.aload_n 0, 1) := by decide +kernel
theorem dL_fights_172 : decode cL_fights 172 = .ok (.iload 9, 2) := by decide +kernel
theorem dL_fights_174 : decode cL_fights 174 = .ok (.bipush 6, 2) := by decide +kernel
theorem dL_fights_176 : decode cL_fights 176 = .ok (.invokevirtual 51, 3) := by decide +kernel
theorem dL_fights_179 : decode cL_fights 179 = .ok (.iconst 2, 1) := by decide +kernel
theorem dL_fights_180 : decode cL_fights 180 = .ok (.if_icmp .ne 39, 3) := by decide +kernel
theorem dL_fights_183 : decode cL_fights 183 = .ok (.aload_n 0, 1) := by decide +kernel
theorem dL_fights_184 : decode cL_fights 184 = .ok (.iload 9, 2) := by decide +kernel
theorem dL_fights_186 : decode cL_fights 186 = .ok (.bipush 7, 2) := by decide +kernel
theorem dL_fights_188 : decode cL_fights 188 = .ok (.invokevirtual 51, 3) := by decide +kernel
theorem dL_fights_191 : decode cL_fights 191 = .ok (.iload 4, 2) := by decide +kernel
theorem dL_fights_193 : decode cL_fights 193 = .ok (.if_icmp .ne 26, 3) := by decide +kernel
theorem dL_fights_196 : decode cL_fights 196 = .ok (.aload_n 0, 1) := by decide +kernel
theorem dL_fights_197 : decode cL_fights 197 = .ok (.iload 4, 2) := by decide +kernel
theorem dL_fights_199 : decode cL_fights 199 = .ok (.bipush 6, 2) := by decide +kernel
theorem dL_fights_201 : decode cL_fights 201 = .ok (.invokevirtual 51, 3) := by decide +kernel
theorem dL_fights_204 : decode cL_fights 204 = .ok (.iconst 2, 1) := by decide +kernel
theorem dL_fights_205 : decode cL_fights 205 = .ok (.if_icmp .ge 14, 3) := by decide +kernel
theorem dL_fights_208 : decode cL_fights 208 = .ok (.aload_n 0, 1) := by decide +kernel
theorem dL_fights_209 : decode cL_fights 209 = .ok (.invokestatic 67, 3) := by decide +kernel
theorem dL_fights_212 : decode cL_fights 212 = .ok (.ifCond .eq 7, 3) := by decide +kernel
theorem dL_fights_215 : decode cL_fights 215 = .ok (.iconst 1, 1) := by decide +kernel
theorem dL_fights_216 : decode cL_fights 216 = .ok (.goto 4, 3) := by decide +kernel
theorem dL_fights_219 : decode cL_fights 219 = .ok (.iconst 0, 1) := by decide +kernel
theorem dL_fights_220 : decode cL_fights 220 = .ok (.istore 10, 2) := by decide +kernel
theorem dL_fights_222 : decode cL_fights 222 = .ok (.iload 10, 2) := by decide +kernel
theorem dL_fights_224 : decode cL_fights 224 = .ok (.ifCond .eq 24, 3) := by decide +kernel
theorem dL_fights_227 : decode cL_fights 227 = .ok (.aload_n 0, 1) := by decide +kernel
theorem dL_fights_228 : decode cL_fights 228 = .ok (.invokevirtual 85, 3) := by decide +kernel
theorem dL_fights_231 : decode cL_fights 231 = .ok (.ifCond .lt 17, 3) := by decide +kernel
theorem dL_fights_234 : decode cL_fights 234 = .ok (.aload_n 0, 1) := by decide +kernel
theorem dL_fights_235 : decode cL_fights 235 = .ok (.invokestatic 81, 3) := by decide +kernel
theorem dL_fights_238 : decode cL_fights 238 = .ok (.lload 5, 2) := by decide +kernel
theorem dL_fights_240 : decode cL_fights 240 = .ok (.lcmp, 1) := by decide +kernel
theorem dL_fights_241 : decode cL_fights 241 = .ok (.ifCond .ne 7, 3) := by decide +kernel
theorem dL_fights_244 : decode cL_fights 244 = .ok (.iconst 1, 1) := by decide +kernel
theorem dL_fights_245 : decode cL_fights 245 = .ok (.goto 4, 3) := by decide +kernel
theorem dL_fights_248 : decode cL_fights 248 = .ok (.iconst 0, 1) := by decide +kernel
theorem dL_fights_249 : decode cL_fights 249 = .ok (.ireturn, 1) := by decide +kernel
set_option maxRecDepth 20000 in
theorem ggL_rounds_X5_player : GoodIn wsL_rounds wsX5_player := goodIn_r _ [5, 6, 7, 8, 9, 10, 4, 11, 12, 13, 14, 15, 16, 17, 18, 19, 20, 21, 22, 23, 24, 25, 26, 27, 28, 29, 30, 31, 32, 33, 34, 35, 246, 247, 248, 249, 250, 251, 252, 253, 254, 255, 256, 257, 258, 259, 260, 261, 262, 263, 264, 265, 266] (by decide +kernel) (by decide +kernel)
set_option maxRecDepth 20000 in
theorem gL_rounds_X5_player : GoodIn wsL_rounds (wsV RL 60 RX5 yX5_player wsX5_player) := goodIn_app (goodIn_of _ (by decide +kernel)) ggL_rounds_X5_player
set_option maxRecDepth 20000 in
theorem ggL_rounds_L_print : GoodIn wsL_rounds wsL_print := goodIn_r _ [39, 40, 41, 42, 43, 44, 4, 45, 6, 46, 47, 48, 49, 50, 51, 52, 15, 16, 17, 18, 19, 20, 21, 22, 23, 24, 25, 26, 27, 28, 29, 30, 31, 53, 54, 55, 56, 57, 58, 59, 60, 61, 62, 63, 64, 65, 66, 67, 68, 69, 70, 71, 72, 73, 74, 75, 76, 77, 78, 79, 80, 81, 82, 83, 84, 85, 86, 13, 14, 87, 1, 2, 3, 5, 7, 8, 9, 10, 11, 12, 32, 33, 34, 35, 246, 247, 248, 249, 250, 251, 252, 253, 254, 255, 256, 257, 258, 259, 260, 261, 262, 263, 264, 265, 266, 267, 268, 269, 270, 271, 272, 273, 274, 275] (by decide +kernel) (by decide +kernel)
set_option maxRecDepth 20000 in
theorem gL_rounds_L_print : GoodIn wsL_rounds (va_wsS RL 81 yL_print wsL_print) := goodIn_app (goodIn_of _ (by decide +kernel)) ggL_rounds_L_print
set_option maxRecDepth 20000 in
theorem ggL_rounds_X5_count : GoodIn wsL_rounds wsX5_count := goodIn_r _ [45, 6, 46, 47, 48, 49, 50, 51, 52, 15, 16, 17, 18, 19, 20, 21, 22, 23, 24, 25, 26, 27, 28, 29, 30, 31, 53, 54, 55, 56, 57, 58, 59, 60, 61, 62, 63, 64, 65, 66, 67, 68, 69, 70, 246, 247, 248, 249, 250, 251, 252, 253, 254, 255, 256, 257, 258, 259, 260, 261, 262, 263, 264, 265, 266, 267, 268, 269, 270, 271, 272, 273, 274, 275] (by decide +kernel) (by decide +kernel)
set_option maxRecDepth 20000 in
theorem gL_rounds_X5_count : GoodIn wsL_rounds (wsV RL 48 RX5 yX5_count wsX5_count) := goodIn_app (goodIn_of _ (by decide +kernel)) ggL_rounds_X5_count
set_option maxRecDepth 20000 in
theorem ggL_rounds_X5_round : GoodIn wsL_rounds wsX5_round := goodIn_r _ [91, 92, 49, 6, 93, 94, 95, 12, 13, 4, 14, 96, 97, 98, 99, 100, 101, 102, 103, 104, 105, 106, 107, 108, 109, 18, 110, 111, 112, 113, 114, 115, 116, 26, 117, 118, 119, 31, 66, 21, 61, 20, 120, 121, 122, 123, 124, 125, 126, 127, 128, 129, 130, 131, 132, 133, 134, 33, 34, 35, 135, 136, 137, 138, 139, 140, 141, 142, 143, 144, 145, 146, 147, 148, 149, 150, 151, 152, 153, 154, 155, 156, 157, 158, 159, 160, 161, 162, 163, 164, 165, 166, 167, 168, 169, 170, 171, 172, 173, 174, 175, 176, 177, 178, 179, 180, 181, 182, 183, 184, 185, 186, 187, 188, 189, 190, 191, 192, 193, 194, 195, 196, 197, 198, 199, 200, 201, 246, 247, 248, 249, 250, 251, 252, 253, 276, 277, 267, 268, 254, 255, 256, 257, 258, 259, 260, 261, 262, 263, 264, 265, 266, 278] (by decide +kernel) (by decide +kernel)
set_option maxRecDepth 20000 in
theorem gL_rounds_X5_round : GoodIn wsL_rounds (wsV RL 42 RX5 yX5_round wsX5_round) := goodIn_app (goodIn_of _ (by decide +kernel)) ggL_rounds_X5_round
theorem gp_rounds_hangs_0 : GoodIn wsL_rounds [.code yL_hangs cL_hangs 10 (some .boolean)] := goodIn_r _ [204] (by decide +kernel) (by decide +kernel)
set_option maxRecDepth 20000 in
theorem gp_rounds_hangs_wsL_hangs_r1 : GoodIn wsL_rounds wsL_hangs_r1 := goodIn_r _ [42, 43, 44, 4, 45, 6, 46, 47, 48, 49, 50, 51, 52, 15, 16, 17, 18, 19, 20, 21, 22, 23, 24, 25] (by decide +kernel) (by decide +kernel)
set_option maxRecDepth 20000 in
theorem gp_rounds_hangs_wsL_hangs_r2 : GoodIn wsL_rounds wsL_hangs_r2 := goodIn_r _ [26, 27, 28, 29, 30, 31, 53, 54, 55, 56, 57, 58, 59, 60, 61, 62, 63, 64, 65, 66, 67, 68, 69, 70] (by decide +kernel) (by decide +kernel)
set_option maxRecDepth 20000 in
theorem gp_rounds_hangs_wsL_hangs_r3 : GoodIn wsL_rounds wsL_hangs_r3 := goodIn_r _ [205, 206, 207, 208, 209, 210, 211, 212, 213, 214, 215, 216, 71, 72, 73, 74, 75, 76, 77, 78, 79, 80, 81, 82] (by decide +kernel) (by decide +kernel)
set_option maxRecDepth 20000 in
theorem gp_rounds_hangs_wsL_hangs_r4 : GoodIn wsL_rounds wsL_hangs_r4 := goodIn_r _ [83, 84, 85, 86, 13, 14, 87, 1, 2, 3, 5, 7, 8, 9, 10, 11, 12, 32, 33, 34, 35, 217, 218, 219] (by decide +kernel) (by decide +kernel)
set_option maxRecDepth 20000 in
theorem gp_rounds_hangs_wsL_hangs_r5 : GoodIn wsL_rounds wsL_hangs_r5 := goodIn_r _ [220, 221, 222, 38, 223, 224, 225, 226, 227, 228, 229, 230, 231, 232, 233, 234, 235, 236, 237] (by decide +kernel) (by decide +kernel)
set_option maxRecDepth 20000 in
theorem gp_rounds_hangs_wsX50 : GoodIn wsL_rounds wsX50 := goodIn_r _ [246, 247, 248, 249, 250, 251, 252, 253] (by decide +kernel) (by decide +kernel)
set_option maxRecDepth 20000 in
theorem gp_rounds_hangs_wsX40 : GoodIn wsL_rounds wsX40 := goodIn_r _ [254, 255, 256, 257, 258, 259, 260, 261, 262, 263, 264, 265, 266] (by decide +kernel) (by decide +kernel)
set_option maxRecDepth 20000 in
theorem gp_rounds_hangs_wsX10 : GoodIn wsL_rounds wsX10 := goodIn_r _ [267, 268] (by decide +kernel) (by decide +kernel)
set_option maxRecDepth 20000 in
theorem gp_rounds_hangs_wsX30 : GoodIn wsL_rounds wsX30 := goodIn_r _ [269, 270, 271, 272, 273, 274, 275] (by decide +kernel) (by decide +kernel)
theorem ggL_rounds_L_hangs : GoodIn wsL_rounds wsL_hangs := goodIn_cons1 gp_rounds_hangs_0 (goodIn_app (goodIn_app (goodIn_app (goodIn_app (goodIn_app gp_rounds_hangs_wsL_hangs_r1 (goodIn_app gp_rounds_hangs_wsL_hangs_r2 (goodIn_app gp_rounds_hangs_wsL_hangs_r3 (goodIn_app gp_rounds_hangs_wsL_hangs_r4 (gp_rounds_hangs_wsL_hangs_r5))))) gp_rounds_hangs_wsX50) gp_rounds_hangs_wsX40) gp_rounds_hangs_wsX10) gp_rounds_hangs_wsX30)
set_option maxRecDepth 20000 in
theorem gL_rounds_L_hangs : GoodIn wsL_rounds (va_wsS RL 92 yL_hangs wsL_hangs) := goodIn_app (goodIn_of _ (by decide +kernel)) ggL_rounds_L_hangs
set_option maxRecDepth 20000 in
theorem ggL_rounds_X5_undo : GoodIn wsL_rounds wsX5_undo := goodIn_r _ [241, 49, 6, 242, 243, 244, 99, 245, 101, 102, 107, 108, 109, 18, 110, 111, 112, 113, 114, 115, 116, 26, 117, 118, 119, 31, 66, 21, 61, 20, 120, 121, 246, 247, 248, 249, 250, 251, 252, 253, 267, 268, 254, 255, 256, 257, 258, 259, 260, 261, 262, 263, 264, 265, 266] (by decide +kernel) (by decide +kernel)
set_option maxRecDepth 20000 in
theorem gL_rounds_X5_undo : GoodIn wsL_rounds (wsV RL 85 RX5 yX5_undo wsX5_undo) := goodIn_app (goodIn_of _ (by decide +kernel)) ggL_rounds_X5_undo
theorem dL_rounds_0 : decode cL_rounds 0 = .ok (.iconst 0, 1) := by decide +kernel
theorem dL_rounds_1 : decode cL_rounds 1 = .ok (.istore_n 2, 1) := by decide +kernel
theorem dL_rounds_2 : decode cL_rounds 2 = .ok (.iconst 0, 1) := by decide +kernel
theorem dL_rounds_3 : decode cL_rounds 3 = .ok (.istore_n 3, 1) := by decide +kernel
theorem dL_rounds_4 : decode cL_rounds 4 = .ok (.iload_n 3, 1) := by decide +kernel
theorem dL_rounds_5 : decode cL_rounds 5 = .ok (.bipush 6, 2) := by decide +kernel
theorem dL_rounds_7 : decode cL_rounds 7 = .ok (.if_icmp .ge 27, 3) := by decide +kernel
theorem dL_rounds_10 : decode cL_rounds 10 = .ok (.iload_n 2, 1) := by decide +kernel
theorem dL_rounds_11 : decode cL_rounds 11 = .ok (.aload_n 0, 1) := by decide +kernel
theorem dL_rounds_12 : decode cL_rounds 12 = .ok (.iload_n 3, 1) := by decide +kernel
theorem dL_rounds_13 : decode cL_rounds 13 = .ok (.bipush 6, 2) := by decide +kernel
theorem dL_rounds_15 : decode cL_rounds 15 = .ok (.invokevirtual 60, 3) := by decide +kernel
theorem dL_rounds_18 : decode cL_rounds 18 = .ok (.ifCond .lt 7, 3) := by decide +kernel
theorem dL_rounds_21 : decode cL_rounds 21 = .ok (.iconst 1, 1) := by decide +kernel
theorem dL_rounds_22 : decode cL_rounds 22 = .ok (.goto 4, 3) := by decide +kernel
theorem dL_rounds_25 : decode cL_rounds 25 = .ok (.iconst 0, 1) := by decide +kernel
theorem dL_rounds_26 : decode cL_rounds 26 = .ok (.iadd, 1) := by decide +kernel
theorem dL_rounds_27 : decode cL_rounds 27 = .ok (.istore_n 2, 1) := by decide +kernel
theorem dL_rounds_28 : decode cL_rounds 28 = .ok (.iinc 3 1, 3) := by decide +kernel
theorem dL_rounds_31 : decode cL_rounds 31 = .ok (.goto (-27), 3) := by decide +kernel
theorem dL_rounds_34 : decode cL_rounds 34 = .ok (.aload_n 0, 1) := by decide +kernel
theorem dL_rounds_35 : decode cL_rounds 35 = .ok (.invokestatic 81, 3) := by decide +kernel
theorem dL_rounds_38 : decode cL_rounds 38 = .ok (.lstore_n 3, 1) := by decide +kernel
theorem dL_rounds_39 : decode cL_rounds 39 = .ok (.aload_n 0, 1) := by decide +kernel
theorem dL_rounds_40 : decode cL_rounds 40 = .ok (.bipush 6, 2) := by decide +kernel
theorem dL_rounds_42 : decode cL_rounds 42 = .ok (.invokevirtual 48, 3) := by decide +kernel
theorem dL_rounds_45 : decode cL_rounds 45 = .ok (.istore 5, 2) := by decide +kernel
theorem dL_rounds_47 : decode cL_rounds 47 = .ok (.aload_n 0, 1) := by decide +kernel
theorem dL_rounds_48 : decode cL_rounds 48 = .ok (.iload_n 1, 1) := by decide +kernel
theorem dL_rounds_49 : decode cL_rounds 49 = .ok (.invokevirtual 42, 3) := by decide +kernel
theorem dL_rounds_52 : decode cL_rounds 52 = .ok (.istore 6, 2) := by decide +kernel
theorem dL_rounds_54 : decode cL_rounds 54 = .ok (.iload 6, 2) := by decide +kernel
theorem dL_rounds_56 : decode cL_rounds 56 = .ok (.iload_n 2, 1) := by decide +kernel
theorem dL_rounds_57 : decode cL_rounds 57 = .ok (.iconst 2, 1) := by decide +kernel
theorem dL_rounds_58 : decode cL_rounds 58 = .ok (.idiv, 1) := by decide +kernel
theorem dL_rounds_59 : decode cL_rounds 59 = .ok (.if_icmp .ne 45, 3) := by decide +kernel
theorem dL_rounds_62 : decode cL_rounds 62 = .ok (.aload_n 0, 1) := by decide +kernel
theorem dL_rounds_63 : decode cL_rounds 63 = .ok (.bipush 6, 2) := by decide +kernel
theorem dL_rounds_65 : decode cL_rounds 65 = .ok (.invokevirtual 48, 3) := by decide +kernel
theorem dL_rounds_68 : decode cL_rounds 68 = .ok (.iload 5, 2) := by decide +kernel
theorem dL_rounds_70 : decode cL_rounds 70 = .ok (.iload 6, 2) := by decide +kernel
theorem dL_rounds_72 : decode cL_rounds 72 = .ok (.iadd, 1) := by decide +kernel
theorem dL_rounds_73 : decode cL_rounds 73 = .ok (.if_icmp .lt 31, 3) := by decide +kernel
theorem dL_rounds_76 : decode cL_rounds 76 = .ok (.aload_n 0, 1) := by decide +kernel
theorem dL_rounds_77 : decode cL_rounds 77 = .ok (.bipush 6, 2) := by decide +kernel
theorem dL_rounds_79 : decode cL_rounds 79 = .ok (.invokevirtual 48, 3) := by decide +kernel
theorem dL_rounds_82 : decode cL_rounds 82 = .ok (.iload 5, 2) := by decide +kernel
theorem dL_rounds_84 : decode cL_rounds 84 = .ok (.bipush 20, 2) := by decide +kernel
theorem dL_rounds_86 : decode cL_rounds 86 = .ok (.iload 6, 2) := by decide +kernel
theorem dL_rounds_88 : decode cL_rounds 88 = .ok (.imul, 1) := by decide +kernel
theorem dL_rounds_89 : decode cL_rounds 89 = .ok (.iadd, 1) := by decide +kernel
theorem dL_rounds_90 : decode cL_rounds 90 = .ok (.if_icmp .gt 14, 3) := by decide +kernel
theorem dL_rounds_93 : decode cL_rounds 93 = .ok (.aload_n 0, 1) := by decide +kernel
theorem dL_rounds_94 : decode cL_rounds 94 = .ok (.invokestatic 92, 3) := by decide +kernel
theorem dL_rounds_97 : decode cL_rounds 97 = .ok (.ifCond .eq 7, 3) := by decide +kernel
theorem dL_rounds_100 : decode cL_rounds 100 = .ok (.iconst 1, 1) := by decide +kernel
theorem dL_rounds_101 : decode cL_rounds 101 = .ok (.goto 4, 3) := by decide +kernel
theorem dL_rounds_104 : decode cL_rounds 104 = .ok (.iconst 0, 1) := by decide +kernel
theorem dL_rounds_105 : decode cL_rounds 105 = .ok (.istore 7, 2) := by decide +kernel
theorem dL_rounds_107 : decode cL_rounds 107 = .ok (.iload 7, 2) := by decide +kernel
theorem dL_rounds_109 : decode cL_rounds 109 = .ok (.ifCond .eq 23, 3) := by decide +kernel
theorem dL_rounds_112 : decode cL_rounds 112 = .ok (.aload_n 0, 1) := by decide +kernel
theorem dL_rounds_113 : decode cL_rounds 113 = .ok (.invokevirtual 85, 3) := by decide +kernel
theorem dL_rounds_116 : decode cL_rounds 116 = .ok (.ifCond .lt 16, 3) := by decide +kernel
theorem dL_rounds_119 : decode cL_rounds 119 = .ok (.aload_n 0, 1) := by decide +kernel
theorem dL_rounds_120 : decode cL_rounds 120 = .ok (.invokestatic 81, 3) := by decide +kernel
theorem dL_rounds_123 : decode cL_rounds 123 = .ok (.lload_n 3, 1) := by decide +kernel
theorem dL_rounds_124 : decode cL_rounds 124 = .ok (.lcmp, 1) := by decide +kernel
theorem dL_rounds_125 : decode cL_rounds 125 = .ok (.ifCond .ne 7, 3) := by decide +kernel
theorem dL_rounds_128 : decode cL_rounds 128 = .ok (.iconst 1, 1) := by decide +kernel
theorem dL_rounds_129 : decode cL_rounds 129 = .ok (.goto 4, 3) := by decide +kernel
theorem dL_rounds_132 : decode cL_rounds 132 = .ok (.iconst 0, 1) := by decide +kernel
theorem dL_rounds_133 : decode cL_rounds 133 = .ok (.ireturn, 1) := by decide +kernel
set_option maxRecDepth 20000 in
theorem ggL_law_X5_init : GoodIn wsL_law wsX5_init := goodIn_r _ [6, 7, 8, 9, 10, 11, 12, 13, 14, 15, 16, 17, 18, 19, 20, 21, 22, 23, 24, 25, 26, 27, 28, 29, 30, 31, 32, 33, 34, 35, 36, 37, 38, 39, 40, 41, 42, 43, 44, 45, 46, 47, 48, 49, 50, 51, 52, 53, 54, 55, 56, 57, 58, 59, 60, 61, 62, 63, 64, 65, 66, 67, 68, 69, 70, 71, 72, 73, 74, 75, 76, 77, 78, 409, 410, 411, 412, 413, 414, 415, 416, 417, 418, 419, 420, 421, 401, 402, 403, 404, 405, 406, 407, 408, 422, 423, 424, 425, 426, 427, 428, 429, 430, 431, 432, 433] (by decide +kernel) (by decide +kernel)
set_option maxRecDepth 20000 in
theorem gL_law_X5_init : GoodIn wsL_law (wsX5_init) := ggL_law_X5_init
theorem gp_law_hangs_0 : GoodIn wsL_law [.code yL_hangs cL_hangs 10 (some .boolean)] := goodIn_r _ [82] (by decide +kernel) (by decide +kernel)
set_option maxRecDepth 20000 in
theorem gp_law_hangs_wsL_hangs_r1 : GoodIn wsL_law wsL_hangs_r1 := goodIn_r _ [83, 84, 85, 2, 86, 13, 87, 88, 89, 19, 90, 23, 91, 92, 93, 94, 12, 95, 48, 46, 96, 97, 98, 99] (by decide +kernel) (by decide +kernel)
set_option maxRecDepth 20000 in
theorem gp_law_hangs_wsL_hangs_r2 : GoodIn wsL_law wsL_hangs_r2 := goodIn_r _ [40, 100, 101, 102, 103, 44, 104, 105, 106, 107, 108, 109, 110, 111, 47, 112, 113, 114, 115, 45, 116, 117, 118, 119] (by decide +kernel) (by decide +kernel)
set_option maxRecDepth 20000 in
theorem gp_law_hangs_wsL_hangs_r3 : GoodIn wsL_law wsL_hangs_r3 := goodIn_r _ [120, 121, 122, 123, 124, 125, 126, 127, 128, 129, 130, 131, 132, 133, 134, 135, 136, 137, 138, 139, 140, 141, 142, 143] (by decide +kernel) (by decide +kernel)
set_option maxRecDepth 20000 in
theorem gp_law_hangs_wsL_hangs_r4 : GoodIn wsL_law wsL_hangs_r4 := goodIn_r _ [144, 145, 146, 147, 148, 149, 150, 151, 152, 153, 154, 155, 156, 157, 158, 159, 160, 161, 162, 163, 164, 165, 166, 167] (by decide +kernel) (by decide +kernel)
set_option maxRecDepth 20000 in
theorem gp_law_hangs_wsL_hangs_r5 : GoodIn wsL_law wsL_hangs_r5 := goodIn_r _ [168, 169, 170, 81, 171, 37, 172, 173, 174, 175, 176, 177, 178, 179, 180, 181, 182, 183, 184] (by decide +kernel) (by decide +kernel)
set_option maxRecDepth 20000 in
theorem gp_law_hangs_wsX50 : GoodIn wsL_law wsX50 := goodIn_r _ [401, 402, 403, 404, 405, 406, 407, 408] (by decide +kernel) (by decide +kernel)
set_option maxRecDepth 20000 in
theorem gp_law_hangs_wsX40 : GoodIn wsL_law wsX40 := goodIn_r _ [409, 410, 411, 412, 413, 414, 415, 416, 417, 418, 419, 420, 421] (by decide +kernel) (by decide +kernel)
set_option maxRecDepth 20000 in
theorem gp_law_hangs_wsX10 : GoodIn wsL_law wsX10 := goodIn_r _ [422, 423] (by decide +kernel) (by decide +kernel)
set_option maxRecDepth 20000 in
theorem gp_law_hangs_wsX30 : GoodIn wsL_law wsX30 := goodIn_r _ [424, 425, 426, 427, 428, 429, 430] (by decide +kernel) (by decide +kernel)
theorem ggL_law_L_hangs : GoodIn wsL_law wsL_hangs := goodIn_cons1 gp_law_hangs_0 (goodIn_app (goodIn_app (goodIn_app (goodIn_app (goodIn_app gp_law_hangs_wsL_hangs_r1 (goodIn_app gp_law_hangs_wsL_hangs_r2 (goodIn_app gp_law_hangs_wsL_hangs_r3 (goodIn_app gp_law_hangs_wsL_hangs_r4 (gp_law_hangs_wsL_hangs_r5))))) gp_law_hangs_wsX50) gp_law_hangs_wsX40) gp_law_hangs_wsX10) gp_law_hangs_wsX30)
set_option maxRecDepth 20000 in
theorem gL_law_L_hangs : GoodIn wsL_law (va_wsS RL 92 yL_hangs wsL_hangs) := goodIn_app (goodIn_of _ (by decide +kernel)) ggL_law_L_hangs
theorem gp_law_rounds_0 : GoodIn wsL_law [.code yL_rounds cL_rounds 8 (some .boolean)] := goodIn_r _ [187] (by decide +kernel) (by decide +kernel)
set_option maxRecDepth 20000 in
theorem gp_law_rounds_wsL_rounds_r1 : GoodIn wsL_law wsL_rounds_r1 := goodIn_r _ [151, 152, 153, 2, 154, 13, 155, 156, 157, 158, 159, 160, 148, 149, 92, 93, 94, 12, 95, 48, 46, 96, 97, 98] (by decide +kernel) (by decide +kernel)
set_option maxRecDepth 20000 in
theorem gp_law_rounds_wsL_rounds_r2 : GoodIn wsL_law wsL_rounds_r2 := goodIn_r _ [99, 40, 100, 101, 102, 103, 44, 161, 162, 163, 164, 188, 189, 81, 190, 191, 192, 83, 84, 85, 86, 87, 88, 89] (by decide +kernel) (by decide +kernel)
set_option maxRecDepth 20000 in
theorem gp_law_rounds_wsL_rounds_r3 : GoodIn wsL_law wsL_rounds_r3 := goodIn_r _ [19, 90, 23, 91, 104, 105, 106, 107, 108, 109, 110, 111, 47, 112, 113, 114, 115, 45, 116, 117, 118, 119, 132, 133] (by decide +kernel) (by decide +kernel)
set_option maxRecDepth 20000 in
theorem gp_law_rounds_wsL_rounds_r4 : GoodIn wsL_law wsL_rounds_r4 := goodIn_r _ [134, 135, 136, 137, 138, 139, 140, 141, 142, 143, 144, 145, 146, 147, 150, 193, 194, 195, 196, 197, 27, 31, 198, 199] (by decide +kernel) (by decide +kernel)
set_option maxRecDepth 20000 in
theorem gp_law_rounds_wsL_rounds_r5 : GoodIn wsL_law wsL_rounds_r5 := goodIn_r _ [200, 201, 18, 202, 57, 56, 203, 204, 205, 206, 207, 208, 209, 210, 38, 211, 212, 213, 214, 39, 41, 42, 43, 49] (by decide +kernel) (by decide +kernel)
set_option maxRecDepth 20000 in
theorem gp_law_rounds_wsL_rounds_r6 : GoodIn wsL_law wsL_rounds_r6 := goodIn_r _ [50, 215, 216, 217, 26, 218, 73, 219, 220, 221, 30, 222, 78, 223, 224, 225, 226, 227, 228, 229, 77, 230, 231, 232] (by decide +kernel) (by decide +kernel)
set_option maxRecDepth 20000 in
theorem gp_law_rounds_wsL_rounds_r7 : GoodIn wsL_law wsL_rounds_r7 := goodIn_r _ [233, 234, 235, 236, 237, 238, 239, 240, 241, 242, 243, 244, 245, 246, 247, 248, 249, 250, 251, 252, 253, 254, 255, 256] (by decide +kernel) (by decide +kernel)
set_option maxRecDepth 20000 in
theorem gp_law_rounds_wsL_rounds_r8 : GoodIn wsL_law wsL_rounds_r8 := goodIn_r _ [257, 258, 259, 260, 261, 262, 263, 264, 265, 266, 267, 268, 269, 270, 271, 272, 273, 274, 275, 276, 277, 278, 279, 280] (by decide +kernel) (by decide +kernel)
set_option maxRecDepth 20000 in
theorem gp_law_rounds_wsL_rounds_r9 : GoodIn wsL_law wsL_rounds_r9 := goodIn_r _ [281, 282, 283, 284, 285, 286, 287, 288, 289, 79, 80, 82, 120, 121, 122, 123, 124, 125, 126, 127, 128, 129, 130, 131] (by decide +kernel) (by decide +kernel)
set_option maxRecDepth 20000 in
theorem gp_law_rounds_wsL_rounds_r10 : GoodIn wsL_law wsL_rounds_r10 := goodIn_r _ [165, 166, 167, 168, 169, 170, 171, 37, 172, 173, 174, 175, 176, 177, 178, 179, 180, 181, 182, 183, 184, 290, 291, 292] (by decide +kernel) (by decide +kernel)
set_option maxRecDepth 20000 in
theorem gp_law_rounds_wsL_rounds_r11 : GoodIn wsL_law wsL_rounds_r11 := goodIn_r _ [293, 294, 295, 296, 297] (by decide +kernel) (by decide +kernel)
set_option maxRecDepth 20000 in
theorem gp_law_rounds_wsX50 : GoodIn wsL_law wsX50 := goodIn_r _ [401, 402, 403, 404, 405, 406, 407, 408] (by decide +kernel) (by decide +kernel)
set_option maxRecDepth 20000 in
theorem gp_law_rounds_wsX40 : GoodIn wsL_law wsX40 := goodIn_r _ [409, 410, 411, 412, 413, 414, 415, 416, 417, 418, 419, 420, 421] (by decide +kernel) (by decide +kernel)
set_option maxRecDepth 20000 in
theorem gp_law_rounds_wsX10 : GoodIn wsL_law wsX10 := goodIn_r _ [422, 423] (by decide +kernel) (by decide +kernel)
set_option maxRecDepth 20000 in
theorem gp_law_rounds_wsX30 : GoodIn wsL_law wsX30 := goodIn_r _ [424, 425, 426, 427, 428, 429, 430] (by decide +kernel) (by decide +kernel)
set_option maxRecDepth 20000 in
theorem gp_law_rounds_wsX20 : GoodIn wsL_law wsX20 := goodIn_r _ [432, 433] (by decide +kernel) (by decide +kernel)
set_option maxRecDepth 20000 in
theorem gp_law_rounds_wsX00 : GoodIn wsL_law wsX00 := goodIn_r _ [431] (by decide +kernel) (by decide +kernel)
theorem ggL_law_L_rounds : GoodIn wsL_law wsL_rounds := goodIn_cons1 gp_law_rounds_0 (goodIn_app (goodIn_app (goodIn_app (goodIn_app (goodIn_app (goodIn_app (goodIn_app gp_law_rounds_wsL_rounds_r1 (goodIn_app gp_law_rounds_wsL_rounds_r2 (goodIn_app gp_law_rounds_wsL_rounds_r3 (goodIn_app gp_law_rounds_wsL_rounds_r4 (goodIn_app gp_law_rounds_wsL_rounds_r5 (goodIn_app gp_law_rounds_wsL_rounds_r6 (goodIn_app gp_law_rounds_wsL_rounds_r7 (goodIn_app gp_law_rounds_wsL_rounds_r8 (goodIn_app gp_law_rounds_wsL_rounds_r9 (goodIn_app gp_law_rounds_wsL_rounds_r10 (gp_law_rounds_wsL_rounds_r11))))))))))) gp_law_rounds_wsX50) gp_law_rounds_wsX40) gp_law_rounds_wsX10) gp_law_rounds_wsX30) gp_law_rounds_wsX20) gp_law_rounds_wsX00)
set_option maxRecDepth 20000 in
theorem gL_law_L_rounds : GoodIn wsL_law (va_wsS RL 96 yL_rounds wsL_rounds) := goodIn_app (goodIn_of _ (by decide +kernel)) ggL_law_L_rounds
set_option maxRecDepth 20000 in
theorem ggL_law_L_cell : GoodIn wsL_law wsL_cell := goodIn_r _ [300, 301, 302] (by decide +kernel) (by decide +kernel)
set_option maxRecDepth 20000 in
theorem gL_law_L_cell : GoodIn wsL_law (va_wsS RL 100 yL_cell wsL_cell) := goodIn_app (goodIn_of _ (by decide +kernel)) ggL_law_L_cell
set_option maxRecDepth 20000 in
theorem ggL_law_X5_count : GoodIn wsL_law wsX5_count := goodIn_r _ [86, 13, 87, 88, 89, 19, 90, 23, 91, 92, 93, 94, 12, 95, 48, 46, 96, 97, 98, 99, 40, 100, 101, 102, 103, 44, 104, 105, 106, 107, 108, 109, 110, 111, 47, 112, 113, 114, 115, 45, 116, 117, 118, 119, 401, 402, 403, 404, 405, 406, 407, 408, 409, 410, 411, 412, 413, 414, 415, 416, 417, 418, 419, 420, 421, 422, 423, 424, 425, 426, 427, 428, 429, 430] (by decide +kernel) (by decide +kernel)
set_option maxRecDepth 20000 in
theorem gL_law_X5_count : GoodIn wsL_law (wsV RL 48 RX5 yX5_count wsX5_count) := goodIn_app (goodIn_of _ (by decide +kernel)) ggL_law_X5_count
set_option maxRecDepth 20000 in
theorem ggL_law_L_print : GoodIn wsL_law wsL_print := goodIn_r _ [190, 191, 192, 83, 84, 85, 2, 86, 13, 87, 88, 89, 19, 90, 23, 91, 92, 93, 94, 12, 95, 48, 46, 96, 97, 98, 99, 40, 100, 101, 102, 103, 44, 104, 105, 106, 107, 108, 109, 110, 111, 47, 112, 113, 114, 115, 45, 116, 117, 118, 119, 132, 133, 134, 135, 136, 137, 138, 139, 140, 141, 142, 143, 144, 145, 146, 147, 148, 149, 150, 151, 152, 153, 154, 155, 156, 157, 158, 159, 160, 161, 162, 163, 164, 401, 402, 403, 404, 405, 406, 407, 408, 409, 410, 411, 412, 413, 414, 415, 416, 417, 418, 419, 420, 421, 422, 423, 424, 425, 426, 427, 428, 429, 430] (by decide +kernel) (by decide +kernel)
set_option maxRecDepth 20000 in
theorem gL_law_L_print : GoodIn wsL_law (va_wsS RL 81 yL_print wsL_print) := goodIn_app (goodIn_of _ (by decide +kernel)) ggL_law_L_print
set_option maxRecDepth 20000 in
theorem ggL_law_L_low : GoodIn wsL_law wsL_low := goodIn_r _ [305, 306] (by decide +kernel) (by decide +kernel)
set_option maxRecDepth 20000 in
theorem gL_law_L_low : GoodIn wsL_law (va_wsS RL 10 yL_low wsL_low) := goodIn_app (goodIn_of _ (by decide +kernel)) ggL_law_L_low
set_option maxRecDepth 20000 in
theorem ggL_law_X5_thread : GoodIn wsL_law wsX5_thread := goodIn_r _ [310, 13, 155, 87, 19, 157, 158, 2, 159, 160, 148, 149, 199, 200, 201, 18, 202, 57, 56, 203, 204, 205, 206, 207, 208, 209, 12, 210, 38, 211, 212, 213, 214, 39, 40, 41, 42, 43, 44, 45, 46, 47, 48, 49, 50, 311, 312, 313, 314, 401, 402, 403, 404, 405, 406, 407, 408, 409, 410, 411, 412, 413, 414, 415, 416, 417, 418, 419, 420, 421, 422, 423] (by decide +kernel) (by decide +kernel)
set_option maxRecDepth 20000 in
theorem gL_law_X5_thread : GoodIn wsL_law (wsV RL 16 RX5 yX5_thread wsX5_thread) := goodIn_app (goodIn_of _ (by decide +kernel)) ggL_law_X5_thread
set_option maxRecDepth 20000 in
theorem ggL_law_L_act : GoodIn wsL_law wsL_act := goodIn_r _ [317, 3, 303, 304, 81, 305, 306, 307, 308, 309, 2, 310, 13, 155, 87, 19, 157, 158, 159, 160, 148, 149, 199, 200, 201, 18, 202, 57, 56, 203, 204, 205, 206, 207, 208, 209, 12, 210, 38, 211, 212, 213, 214, 39, 40, 41, 42, 43, 44, 45, 46, 47, 48, 49, 50, 311, 312, 313, 314, 318, 319, 320, 321, 322, 323, 324, 325, 142, 141, 144, 145, 146, 147, 326, 327, 328, 329, 136, 330, 331, 332, 333, 334, 335, 336, 337, 338, 339, 340, 341, 342, 343, 344, 345, 184, 346, 347, 348, 349, 350, 351, 352, 353, 354, 355, 271, 272, 273, 274, 275, 276, 277, 356, 357, 358, 359, 27, 360, 361, 362, 363, 364, 365, 366, 367, 368, 250, 251, 252, 253, 215, 216, 217, 26, 218, 73, 239, 240, 241, 242, 243, 244, 245, 246, 247, 248, 249, 254, 255, 256, 257, 258, 231, 232, 233, 234, 259, 260, 261, 262, 263, 264, 265, 266, 267, 268, 269, 270, 278, 279, 280, 281, 282, 283, 284, 285, 286, 287, 288, 289, 193, 194, 195, 196, 197, 31, 198, 219, 220, 221, 30, 222, 78, 223, 162, 163, 164, 224, 225, 226, 227, 228, 229, 77, 230, 235, 236, 237, 238, 369, 370, 371, 372, 373, 374, 375, 376, 377, 401, 402, 403, 404, 405, 406, 407, 408, 409, 410, 411, 412, 413, 414, 415, 416, 417, 418, 419, 420, 421, 422, 423, 431, 432, 433] (by decide +kernel) (by decide +kernel)
set_option maxRecDepth 20000 in
theorem gL_law_L_act : GoodIn wsL_law (va_wsS RL 104 yL_act wsL_act) := goodIn_app (goodIn_of _ (by decide +kernel)) ggL_law_L_act
set_option maxRecDepth 20000 in
theorem ggL_law_X5_undo : GoodIn wsL_law wsX5_undo := goodIn_r _ [293, 19, 13, 294, 295, 296, 18, 297, 57, 56, 207, 208, 209, 12, 210, 38, 211, 212, 213, 214, 39, 40, 41, 42, 43, 44, 45, 46, 47, 48, 49, 50, 401, 402, 403, 404, 405, 406, 407, 408, 422, 423, 409, 410, 411, 412, 413, 414, 415, 416, 417, 418, 419, 420, 421] (by decide +kernel) (by decide +kernel)
set_option maxRecDepth 20000 in
theorem gL_law_X5_undo : GoodIn wsL_law (wsV RL 85 RX5 yX5_undo wsX5_undo) := goodIn_app (goodIn_of _ (by decide +kernel)) ggL_law_X5_undo
theorem gp_law_strikes_0 : GoodIn wsL_law [.code yL_strikes cL_strikes 12 (some .boolean)] := goodIn_r _ [380] (by decide +kernel) (by decide +kernel)
set_option maxRecDepth 20000 in
theorem gp_law_strikes_wsL_strikes_r1 : GoodIn wsL_law wsL_strikes_r1 := goodIn_r _ [381, 382, 383, 2, 384, 13, 373, 374, 375, 12, 376, 148, 149, 365, 366, 367, 368, 40, 184, 145, 146, 147, 48, 250] (by decide +kernel) (by decide +kernel)
set_option maxRecDepth 20000 in
theorem gp_law_strikes_wsL_strikes_r2 : GoodIn wsL_law wsL_strikes_r2 := goodIn_r _ [251, 252, 253, 46, 385, 386, 387, 388, 15, 389, 208, 209, 210, 38, 211, 212, 213, 214, 39, 41, 42, 43, 44, 45] (by decide +kernel) (by decide +kernel)
set_option maxRecDepth 20000 in
theorem gp_law_strikes_wsL_strikes_r3 : GoodIn wsL_law wsL_strikes_r3 := goodIn_r _ [47, 49, 50, 377, 260, 261, 262, 243, 244, 245, 246, 263, 264, 265, 266, 267, 268, 269, 270, 271, 272, 273, 274, 275] (by decide +kernel) (by decide +kernel)
set_option maxRecDepth 20000 in
theorem gp_law_strikes_wsL_strikes_r4 : GoodIn wsL_law wsL_strikes_r4 := goodIn_r _ [276, 277, 278, 279, 280, 281, 282, 283, 284, 285, 286, 287, 288, 289, 390, 391, 392, 393, 188, 189, 81, 190, 191, 192] (by decide +kernel) (by decide +kernel)
set_option maxRecDepth 20000 in
theorem gp_law_strikes_wsL_strikes_r5 : GoodIn wsL_law wsL_strikes_r5 := goodIn_r _ [83, 84, 85, 86, 87, 88, 89, 19, 90, 23, 91, 92, 93, 94, 95, 96, 97, 98, 99, 100, 101, 102, 103, 104] (by decide +kernel) (by decide +kernel)
set_option maxRecDepth 20000 in
theorem gp_law_strikes_wsL_strikes_r6 : GoodIn wsL_law wsL_strikes_r6 := goodIn_r _ [105, 106, 107, 108, 109, 110, 111, 112, 113, 114, 115, 116, 117, 118, 119, 132, 133, 134, 135, 136, 137, 138, 139, 140] (by decide +kernel) (by decide +kernel)
set_option maxRecDepth 20000 in
theorem gp_law_strikes_wsL_strikes_r7 : GoodIn wsL_law wsL_strikes_r7 := goodIn_r _ [141, 142, 143, 144, 150, 151, 152, 153, 154, 155, 156, 157, 158, 159, 160, 161, 162, 163, 164, 369, 370, 371, 372, 199] (by decide +kernel) (by decide +kernel)
set_option maxRecDepth 20000 in
theorem gp_law_strikes_wsL_strikes_r8 : GoodIn wsL_law wsL_strikes_r8 := goodIn_r _ [200, 201, 18, 202, 57, 56, 203, 204, 205, 206, 207, 169, 170, 171, 37, 172, 173, 174, 175, 176, 177, 178, 179, 180] (by decide +kernel) (by decide +kernel)
set_option maxRecDepth 20000 in
theorem gp_law_strikes_wsL_strikes_r9 : GoodIn wsL_law wsL_strikes_r9 := goodIn_r _ [181, 182, 183, 290, 291, 292, 293, 294, 295, 296, 297] (by decide +kernel) (by decide +kernel)
set_option maxRecDepth 20000 in
theorem gp_law_strikes_wsX50 : GoodIn wsL_law wsX50 := goodIn_r _ [401, 402, 403, 404, 405, 406, 407, 408] (by decide +kernel) (by decide +kernel)
set_option maxRecDepth 20000 in
theorem gp_law_strikes_wsX40 : GoodIn wsL_law wsX40 := goodIn_r _ [409, 410, 411, 412, 413, 414, 415, 416, 417, 418, 419, 420, 421] (by decide +kernel) (by decide +kernel)
set_option maxRecDepth 20000 in
theorem gp_law_strikes_wsX10 : GoodIn wsL_law wsX10 := goodIn_r _ [422, 423] (by decide +kernel) (by decide +kernel)
set_option maxRecDepth 20000 in
theorem gp_law_strikes_wsX30 : GoodIn wsL_law wsX30 := goodIn_r _ [424, 425, 426, 427, 428, 429, 430] (by decide +kernel) (by decide +kernel)
theorem ggL_law_L_strikes : GoodIn wsL_law wsL_strikes := goodIn_cons1 gp_law_strikes_0 (goodIn_app (goodIn_app (goodIn_app (goodIn_app (goodIn_app gp_law_strikes_wsL_strikes_r1 (goodIn_app gp_law_strikes_wsL_strikes_r2 (goodIn_app gp_law_strikes_wsL_strikes_r3 (goodIn_app gp_law_strikes_wsL_strikes_r4 (goodIn_app gp_law_strikes_wsL_strikes_r5 (goodIn_app gp_law_strikes_wsL_strikes_r6 (goodIn_app gp_law_strikes_wsL_strikes_r7 (goodIn_app gp_law_strikes_wsL_strikes_r8 (gp_law_strikes_wsL_strikes_r9))))))))) gp_law_strikes_wsX50) gp_law_strikes_wsX40) gp_law_strikes_wsX10) gp_law_strikes_wsX30)
set_option maxRecDepth 20000 in
theorem gL_law_L_strikes : GoodIn wsL_law (va_wsS RL 108 yL_strikes wsL_strikes) := goodIn_app (goodIn_of _ (by decide +kernel)) ggL_law_L_strikes
theorem gp_law_fights_0 : GoodIn wsL_law [.code yL_fights cL_fights 11 (some .boolean)] := goodIn_r _ [396] (by decide +kernel) (by decide +kernel)
set_option maxRecDepth 20000 in
theorem gp_law_fights_wsL_fights_r1 : GoodIn wsL_law wsL_fights_r1 := goodIn_r _ [397, 398, 399, 2, 400, 13, 15, 27, 142, 360, 361, 362, 12, 363, 364, 148, 149, 365, 366, 367, 368, 40, 184, 145] (by decide +kernel) (by decide +kernel)
set_option maxRecDepth 20000 in
theorem gp_law_fights_wsL_fights_r2 : GoodIn wsL_law wsL_fights_r2 := goodIn_r _ [146, 147, 48, 250, 251, 252, 253, 46, 389, 208, 209, 210, 38, 211, 212, 213, 214, 39, 41, 42, 43, 44, 45, 47] (by decide +kernel) (by decide +kernel)
set_option maxRecDepth 20000 in
theorem gp_law_fights_wsL_fights_r3 : GoodIn wsL_law wsL_fights_r3 := goodIn_r _ [49, 50, 215, 216, 217, 26, 218, 73, 239, 240, 241, 242, 243, 244, 245, 246, 247, 248, 249, 254, 255, 256, 257, 258] (by decide +kernel) (by decide +kernel)
set_option maxRecDepth 20000 in
theorem gp_law_fights_wsL_fights_r4 : GoodIn wsL_law wsL_fights_r4 := goodIn_r _ [231, 232, 233, 234, 259, 260, 261, 262, 263, 264, 265, 266, 267, 268, 269, 270, 271, 272, 273, 274, 275, 276, 277, 278] (by decide +kernel) (by decide +kernel)
set_option maxRecDepth 20000 in
theorem gp_law_fights_wsL_fights_r5 : GoodIn wsL_law wsL_fights_r5 := goodIn_r _ [279, 280, 281, 282, 283, 284, 285, 286, 287, 288, 289, 188, 189, 81, 190, 191, 192, 83, 84, 85, 86, 87, 88, 89] (by decide +kernel) (by decide +kernel)
set_option maxRecDepth 20000 in
theorem gp_law_fights_wsL_fights_r6 : GoodIn wsL_law wsL_fights_r6 := goodIn_r _ [19, 90, 23, 91, 92, 93, 94, 95, 96, 97, 98, 99, 100, 101, 102, 103, 104, 105, 106, 107, 108, 109, 110, 111] (by decide +kernel) (by decide +kernel)
set_option maxRecDepth 20000 in
theorem gp_law_fights_wsL_fights_r7 : GoodIn wsL_law wsL_fights_r7 := goodIn_r _ [112, 113, 114, 115, 116, 117, 118, 119, 132, 133, 134, 135, 136, 137, 138, 139, 140, 141, 143, 144, 150, 151, 152, 153] (by decide +kernel) (by decide +kernel)
set_option maxRecDepth 20000 in
theorem gp_law_fights_wsL_fights_r8 : GoodIn wsL_law wsL_fights_r8 := goodIn_r _ [154, 155, 156, 157, 158, 159, 160, 161, 162, 163, 164, 356, 357, 358, 359, 199, 200, 201, 18, 202, 57, 56, 203, 204] (by decide +kernel) (by decide +kernel)
set_option maxRecDepth 20000 in
theorem gp_law_fights_wsL_fights_r9 : GoodIn wsL_law wsL_fights_r9 := goodIn_r _ [205, 206, 207, 169, 170, 171, 37, 172, 173, 174, 175, 176, 177, 178, 179, 180, 181, 182, 183, 290, 291, 292, 293, 294] (by decide +kernel) (by decide +kernel)
set_option maxRecDepth 20000 in
theorem gp_law_fights_wsL_fights_r10 : GoodIn wsL_law wsL_fights_r10 := goodIn_r _ [295, 296, 297] (by decide +kernel) (by decide +kernel)
set_option maxRecDepth 20000 in
theorem gp_law_fights_wsX50 : GoodIn wsL_law wsX50 := goodIn_r _ [401, 402, 403, 404, 405, 406, 407, 408] (by decide +kernel) (by decide +kernel)
set_option maxRecDepth 20000 in
theorem gp_law_fights_wsX40 : GoodIn wsL_law wsX40 := goodIn_r _ [409, 410, 411, 412, 413, 414, 415, 416, 417, 418, 419, 420, 421] (by decide +kernel) (by decide +kernel)
set_option maxRecDepth 20000 in
theorem gp_law_fights_wsX00 : GoodIn wsL_law wsX00 := goodIn_r _ [431] (by decide +kernel) (by decide +kernel)
set_option maxRecDepth 20000 in
theorem gp_law_fights_wsX10 : GoodIn wsL_law wsX10 := goodIn_r _ [422, 423] (by decide +kernel) (by decide +kernel)
set_option maxRecDepth 20000 in
theorem gp_law_fights_wsX30 : GoodIn wsL_law wsX30 := goodIn_r _ [424, 425, 426, 427, 428, 429, 430] (by decide +kernel) (by decide +kernel)
theorem ggL_law_L_fights : GoodIn wsL_law wsL_fights := goodIn_cons1 gp_law_fights_0 (goodIn_app (goodIn_app (goodIn_app (goodIn_app (goodIn_app (goodIn_app gp_law_fights_wsL_fights_r1 (goodIn_app gp_law_fights_wsL_fights_r2 (goodIn_app gp_law_fights_wsL_fights_r3 (goodIn_app gp_law_fights_wsL_fights_r4 (goodIn_app gp_law_fights_wsL_fights_r5 (goodIn_app gp_law_fights_wsL_fights_r6 (goodIn_app gp_law_fights_wsL_fights_r7 (goodIn_app gp_law_fights_wsL_fights_r8 (goodIn_app gp_law_fights_wsL_fights_r9 (gp_law_fights_wsL_fights_r10)))))))))) gp_law_fights_wsX50) gp_law_fights_wsX40) gp_law_fights_wsX00) gp_law_fights_wsX10) gp_law_fights_wsX30)
set_option maxRecDepth 20000 in
theorem gL_law_L_fights : GoodIn wsL_law (va_wsS RL 112 yL_fights wsL_fights) := goodIn_app (goodIn_of _ (by decide +kernel)) ggL_law_L_fights
theorem dL_law_0 : decode cL_law 0 = .ok (.new 17, 3) := by decide +kernel
theorem dL_law_3 : decode cL_law 3 = .ok (.dup, 1) := by decide +kernel
theorem dL_law_4 : decode cL_law 4 = .ok (.invokespecial 95, 3) := by decide +kernel
theorem dL_law_7 : decode cL_law 7 = .ok (.astore_n 1, 1) := by decide +kernel
theorem dL_law_8 : decode cL_law 8 = .ok (.aload_n 1, 1) := by decide +kernel
theorem dL_law_9 : decode cL_law 9 = .ok (.invokestatic 92, 3) := by decide +kernel
theorem dL_law_12 : decode cL_law 12 = .ok (.ifCond .eq 15, 3) := by decide +kernel
theorem dL_law_15 : decode cL_law 15 = .ok (.aload_n 1, 1) := by decide +kernel
theorem dL_law_16 : decode cL_law 16 = .ok (.iconst 5, 1) := by decide +kernel
theorem dL_law_17 : decode cL_law 17 = .ok (.invokestatic 96, 3) := by decide +kernel
theorem dL_law_20 : decode cL_law 20 = .ok (.ifCond .eq 7, 3) := by decide +kernel
theorem dL_law_23 : decode cL_law 23 = .ok (.iconst 1, 1) := by decide +kernel
theorem dL_law_24 : decode cL_law 24 = .ok (.goto 4, 3) := by decide +kernel
theorem dL_law_27 : decode cL_law 27 = .ok (.iconst 0, 1) := by decide +kernel
theorem dL_law_28 : decode cL_law 28 = .ok (.istore_n 2, 1) := by decide +kernel
theorem dL_law_29 : decode cL_law 29 = .ok (.iconst 0, 1) := by decide +kernel
theorem dL_law_30 : decode cL_law 30 = .ok (.istore_n 3, 1) := by decide +kernel
theorem dL_law_31 : decode cL_law 31 = .ok (.iload_n 3, 1) := by decide +kernel
theorem dL_law_32 : decode cL_law 32 = .ok (.bipush 48, 2) := by decide +kernel
theorem dL_law_34 : decode cL_law 34 = .ok (.if_icmp .ge 375, 3) := by decide +kernel
theorem dL_law_37 : decode cL_law 37 = .ok (.iload_n 2, 1) := by decide +kernel
theorem dL_law_38 : decode cL_law 38 = .ok (.ifCond .eq 371, 3) := by decide +kernel
theorem dL_law_41 : decode cL_law 41 = .ok (.aload_n 0, 1) := by decide +kernel
theorem dL_law_42 : decode cL_law 42 = .ok (.iconst 2, 1) := by decide +kernel
theorem dL_law_43 : decode cL_law 43 = .ok (.iload_n 3, 1) := by decide +kernel
theorem dL_law_44 : decode cL_law 44 = .ok (.imul, 1) := by decide +kernel
theorem dL_law_45 : decode cL_law 45 = .ok (.invokestatic 100, 3) := by decide +kernel
theorem dL_law_48 : decode cL_law 48 = .ok (.istore 4, 2) := by decide +kernel
theorem dL_law_50 : decode cL_law 50 = .ok (.aload_n 0, 1) := by decide +kernel
theorem dL_law_51 : decode cL_law 51 = .ok (.iconst 2, 1) := by decide +kernel
theorem dL_law_52 : decode cL_law 52 = .ok (.iload_n 3, 1) := by decide +kernel
theorem dL_law_53 : decode cL_law 53 = .ok (.imul, 1) := by decide +kernel
theorem dL_law_54 : decode cL_law 54 = .ok (.iconst 1, 1) := by decide +kernel
theorem dL_law_55 : decode cL_law 55 = .ok (.iadd, 1) := by decide +kernel
theorem dL_law_56 : decode cL_law 56 = .ok (.invokestatic 100, 3) := by decide +kernel
theorem dL_law_59 : decode cL_law 59 = .ok (.istore 5, 2) := by decide +kernel
theorem dL_law_61 : decode cL_law 61 = .ok (.aload_n 1, 1) := by decide +kernel
theorem dL_law_62 : decode cL_law 62 = .ok (.bipush 10, 2) := by decide +kernel
theorem dL_law_64 : decode cL_law 64 = .ok (.invokevirtual 48, 3) := by decide +kernel
theorem dL_law_67 : decode cL_law 67 = .ok (.istore 6, 2) := by decide +kernel
theorem dL_law_69 : decode cL_law 69 = .ok (.aload_n 1, 1) := by decide +kernel
theorem dL_law_70 : decode cL_law 70 = .ok (.invokestatic 81, 3) := by decide +kernel
theorem dL_law_73 : decode cL_law 73 = .ok (.lstore 7, 2) := by decide +kernel
theorem dL_law_75 : decode cL_law 75 = .ok (.iload_n 3, 1) := by decide +kernel
theorem dL_law_76 : decode cL_law 76 = .ok (.bipush 7, 2) := by decide +kernel
theorem dL_law_78 : decode cL_law 78 = .ok (.if_icmp .le 30, 3) := by decide +kernel
theorem dL_law_81 : decode cL_law 81 = .ok (.iload 4, 2) := by decide +kernel
theorem dL_law_83 : decode cL_law 83 = .ok (.bipush 17, 2) := by decide +kernel
theorem dL_law_85 : decode cL_law 85 = .ok (.invokestatic 10, 3) := by decide +kernel
theorem dL_law_88 : decode cL_law 88 = .ok (.iconst 3, 1) := by decide +kernel
theorem dL_law_89 : decode cL_law 89 = .ok (.if_icmp .eq 15, 3) := by decide +kernel
theorem dL_law_92 : decode cL_law 92 = .ok (.iload 4, 2) := by decide +kernel
theorem dL_law_94 : decode cL_law 94 = .ok (.bipush 17, 2) := by decide +kernel
theorem dL_law_96 : decode cL_law 96 = .ok (.invokestatic 10, 3) := by decide +kernel
theorem dL_law_99 : decode cL_law 99 = .ok (.bipush 8, 2) := by decide +kernel
theorem dL_law_101 : decode cL_law 101 = .ok (.if_icmp .ne 7, 3) := by decide +kernel
theorem dL_law_104 : decode cL_law 104 = .ok (.iconst 1, 1) := by decide +kernel
theorem dL_law_105 : decode cL_law 105 = .ok (.goto 4, 3) := by decide +kernel
theorem dL_law_108 : decode cL_law 108 = .ok (.iconst 0, 1) := by decide +kernel
theorem dL_law_109 : decode cL_law 109 = .ok (.istore 9, 2) := by decide +kernel
theorem dL_law_111 : decode cL_law 111 = .ok (.iload_n 3, 1) := by decide +kernel
theorem dL_law_112 : decode cL_law 112 = .ok (.bipush 8, 2) := by decide +kernel
theorem dL_law_114 : decode cL_law 114 = .ok (.if_icmp .ge 22, 3) := by decide +kernel
theorem dL_law_117 : decode cL_law 117 = .ok (.aload_n 1, 1) := by decide +kernel
theorem dL_law_118 : decode cL_law 118 = .ok (.iload_n 3, 1) := by decide +kernel
theorem dL_law_119 : decode cL_law 119 = .ok (.iconst 4, 1) := by decide +kernel
theorem dL_law_120 : decode cL_law 120 = .ok (.irem, 1) := by decide +kernel
theorem dL_law_121 : decode cL_law 121 = .ok (.iconst 1, 1) := by decide +kernel
theorem dL_law_122 : decode cL_law 122 = .ok (.iload 5, 2) := by decide +kernel
theorem dL_law_124 : decode cL_law 124 = .ok (.bipush 9, 2) := by decide +kernel
theorem dL_law_126 : decode cL_law 126 = .ok (.invokestatic 10, 3) := by decide +kernel
theorem dL_law_129 : decode cL_law 129 = .ok (.iadd, 1) := by decide +kernel
theorem dL_law_130 : decode cL_law 130 = .ok (.invokevirtual 16, 3) := by decide +kernel
theorem dL_law_133 : decode cL_law 133 = .ok (.goto 11, 3) := by decide +kernel
theorem dL_law_136 : decode cL_law 136 = .ok (.aload_n 1, 1) := by decide +kernel
theorem dL_law_137 : decode cL_law 137 = .ok (.iload 4, 2) := by decide +kernel
theorem dL_law_139 : decode cL_law 139 = .ok (.iload 5, 2) := by decide +kernel
theorem dL_law_141 : decode cL_law 141 = .ok (.invokestatic 104, 3) := by decide +kernel
theorem dL_law_144 : decode cL_law 144 = .ok (.istore 10, 2) := by decide +kernel
theorem dL_law_146 : decode cL_law 146 = .ok (.iload 10, 2) := by decide +kernel
theorem dL_law_148 : decode cL_law 148 = .ok (.ifCond .ge 45, 3) := by decide +kernel
theorem dL_law_151 : decode cL_law 151 = .ok (.iload 9, 2) := by decide +kernel
theorem dL_law_153 : decode cL_law 153 = .ok (.ifCond .eq 10, 3) := by decide +kernel
theorem dL_law_156 : decode cL_law 156 = .ok (.iload 10, 2) := by decide +kernel
theorem dL_law_158 : decode cL_law 158 = .ok (.bipush (-5), 2) := by decide +kernel
theorem dL_law_160 : decode cL_law 160 = .ok (.if_icmp .eq 33, 3) := by decide +kernel
theorem dL_law_163 : decode cL_law 163 = .ok (.aload_n 1, 1) := by decide +kernel
theorem dL_law_164 : decode cL_law 164 = .ok (.bipush 10, 2) := by decide +kernel
theorem dL_law_166 : decode cL_law 166 = .ok (.invokevirtual 48, 3) := by decide +kernel
theorem dL_law_169 : decode cL_law 169 = .ok (.iload 6, 2) := by decide +kernel
theorem dL_law_171 : decode cL_law 171 = .ok (.if_icmp .ne 17, 3) := by decide +kernel
theorem dL_law_174 : decode cL_law 174 = .ok (.aload_n 1, 1) := by decide +kernel
theorem dL_law_175 : decode cL_law 175 = .ok (.invokestatic 81, 3) := by decide +kernel
theorem dL_law_178 : decode cL_law 178 = .ok (.lload 7, 2) := by decide +kernel
theorem dL_law_180 : decode cL_law 180 = .ok (.lcmp, 1) := by decide +kernel
theorem dL_law_181 : decode cL_law 181 = .ok (.ifCond .ne 7, 3) := by decide +kernel
theorem dL_law_184 : decode cL_law 184 = .ok (.iconst 1, 1) := by decide +kernel
theorem dL_law_185 : decode cL_law 185 = .ok (.goto 4, 3) := by decide +kernel
theorem dL_law_188 : decode cL_law 188 = .ok (.iconst 0, 1) := by decide +kernel
theorem dL_law_189 : decode cL_law 189 = .ok (.istore_n 2, 1) := by decide +kernel
theorem dL_law_190 : decode cL_law 190 = .ok (.goto 101, 3) := by decide +kernel
theorem dL_law_193 : decode cL_law 193 = .ok (.aload_n 1, 1) := by decide +kernel
theorem dL_law_194 : decode cL_law 194 = .ok (.bipush 10, 2) := by decide +kernel
theorem dL_law_196 : decode cL_law 196 = .ok (.invokevirtual 48, 3) := by decide +kernel
theorem dL_law_199 : decode cL_law 199 = .ok (.iload 6, 2) := by decide +kernel
theorem dL_law_201 : decode cL_law 201 = .ok (.iconst 5, 1) := by decide +kernel
theorem dL_law_202 : decode cL_law 202 = .ok (.if_icmp .ge 10, 3) := by decide +kernel
theorem dL_law_205 : decode cL_law 205 = .ok (.iload 6, 2) := by decide +kernel
theorem dL_law_207 : decode cL_law 207 = .ok (.iconst 1, 1) := by decide +kernel
theorem dL_law_208 : decode cL_law 208 = .ok (.iadd, 1) := by decide +kernel
theorem dL_law_209 : decode cL_law 209 = .ok (.goto 4, 3) := by decide +kernel
theorem dL_law_212 : decode cL_law 212 = .ok (.iconst 5, 1) := by decide +kernel
theorem dL_law_213 : decode cL_law 213 = .ok (.if_icmp .ne 7, 3) := by decide +kernel
theorem dL_law_216 : decode cL_law 216 = .ok (.iconst 1, 1) := by decide +kernel
theorem dL_law_217 : decode cL_law 217 = .ok (.goto 4, 3) := by decide +kernel
theorem dL_law_220 : decode cL_law 220 = .ok (.iconst 0, 1) := by decide +kernel
theorem dL_law_221 : decode cL_law 221 = .ok (.istore_n 2, 1) := by decide +kernel
theorem dL_law_222 : decode cL_law 222 = .ok (.iload_n 2, 1) := by decide +kernel
theorem dL_law_223 : decode cL_law 223 = .ok (.ifCond .eq 68, 3) := by decide +kernel
theorem dL_law_226 : decode cL_law 226 = .ok (.iload_n 3, 1) := by decide +kernel
theorem dL_law_227 : decode cL_law 227 = .ok (.bipush 7, 2) := by decide +kernel
theorem dL_law_229 : decode cL_law 229 = .ok (.if_icmp .le 62, 3) := by decide +kernel
theorem dL_law_232 : decode cL_law 232 = .ok (.iload 5, 2) := by decide +kernel
theorem dL_law_234 : decode cL_law 234 = .ok (.iconst 5, 1) := by decide +kernel
theorem dL_law_235 : decode cL_law 235 = .ok (.ishr, 1) := by decide +kernel
theorem dL_law_236 : decode cL_law 236 = .ok (.iconst 4, 1) := by decide +kernel
theorem dL_law_237 : decode cL_law 237 = .ok (.invokestatic 10, 3) := by decide +kernel
theorem dL_law_240 : decode cL_law 240 = .ok (.ifCond .ne 51, 3) := by decide +kernel
theorem dL_law_243 : decode cL_law 243 = .ok (.aload_n 1, 1) := by decide +kernel
theorem dL_law_244 : decode cL_law 244 = .ok (.invokevirtual 85, 3) := by decide +kernel
theorem dL_law_247 : decode cL_law 247 = .ok (.iload 6, 2) := by decide +kernel
theorem dL_law_249 : decode cL_law 249 = .ok (.iconst 5, 1) := by decide +kernel
theorem dL_law_250 : decode cL_law 250 = .ok (.if_icmp .ge 8, 3) := by decide +kernel
theorem dL_law_253 : decode cL_law 253 = .ok (.iload 6, 2) := by decide +kernel
theorem dL_law_255 : decode cL_law 255 = .ok (.goto 4, 3) := by decide +kernel
theorem dL_law_258 : decode cL_law 258 = .ok (.iconst 4, 1) := by decide +kernel
theorem dL_law_259 : decode cL_law 259 = .ok (.if_icmp .ne 30, 3) := by decide +kernel
theorem dL_law_262 : decode cL_law 262 = .ok (.aload_n 1, 1) := by decide +kernel
theorem dL_law_263 : decode cL_law 263 = .ok (.invokestatic 81, 3) := by decide +kernel
theorem dL_law_266 : decode cL_law 266 = .ok (.lload 7, 2) := by decide +kernel
theorem dL_law_268 : decode cL_law 268 = .ok (.lcmp, 1) := by decide +kernel
theorem dL_law_269 : decode cL_law 269 = .ok (.ifCond .ne 20, 3) := by decide +kernel
theorem dL_law_272 : decode cL_law 272 = .ok (.aload_n 1, 1) := by decide +kernel
theorem dL_law_273 : decode cL_law 273 = .ok (.iload 4, 2) := by decide +kernel
theorem dL_law_275 : decode cL_law 275 = .ok (.iload 5, 2) := by decide +kernel
theorem dL_law_277 : decode cL_law 277 = .ok (.invokestatic 104, 3) := by decide +kernel
theorem dL_law_280 : decode cL_law 280 = .ok (.iload 10, 2) := by decide +kernel
theorem dL_law_282 : decode cL_law 282 = .ok (.if_icmp .ne 7, 3) := by decide +kernel
theorem dL_law_285 : decode cL_law 285 = .ok (.iconst 1, 1) := by decide +kernel
theorem dL_law_286 : decode cL_law 286 = .ok (.goto 4, 3) := by decide +kernel
theorem dL_law_289 : decode cL_law 289 = .ok (.iconst 0, 1) := by decide +kernel
theorem dL_law_290 : decode cL_law 290 = .ok (.istore_n 2, 1) := by decide +kernel
theorem dL_law_291 : decode cL_law 291 = .ok (.iload_n 2, 1) := by decide +kernel
theorem dL_law_292 : decode cL_law 292 = .ok (.ifCond .eq 109, 3) := by decide +kernel
theorem dL_law_295 : decode cL_law 295 = .ok (.aload_n 1, 1) := by decide +kernel
theorem dL_law_296 : decode cL_law 296 = .ok (.invokestatic 92, 3) := by decide +kernel
theorem dL_law_299 : decode cL_law 299 = .ok (.ifCond .eq 102, 3) := by decide +kernel
theorem dL_law_302 : decode cL_law 302 = .ok (.aload_n 1, 1) := by decide +kernel
theorem dL_law_303 : decode cL_law 303 = .ok (.iload 4, 2) := by decide +kernel
theorem dL_law_305 : decode cL_law 305 = .ok (.iconst 5, 1) := by decide +kernel
theorem dL_law_306 : decode cL_law 306 = .ok (.ishr, 1) := by decide +kernel
theorem dL_law_307 : decode cL_law 307 = .ok (.bipush 9, 2) := by decide +kernel
theorem dL_law_309 : decode cL_law 309 = .ok (.invokestatic 10, 3) := by decide +kernel
theorem dL_law_312 : decode cL_law 312 = .ok (.iload 5, 2) := by decide +kernel
theorem dL_law_314 : decode cL_law 314 = .ok (.iconst 4, 1) := by decide +kernel
theorem dL_law_315 : decode cL_law 315 = .ok (.ishr, 1) := by decide +kernel
theorem dL_law_316 : decode cL_law 316 = .ok (.bipush 9, 2) := by decide +kernel
theorem dL_law_318 : decode cL_law 318 = .ok (.invokestatic 10, 3) := by decide +kernel
theorem dL_law_321 : decode cL_law 321 = .ok (.iconst 1, 1) := by decide +kernel
theorem dL_law_322 : decode cL_law 322 = .ok (.iload 4, 2) := by decide +kernel
theorem dL_law_324 : decode cL_law 324 = .ok (.bipush 9, 2) := by decide +kernel
theorem dL_law_326 : decode cL_law 326 = .ok (.ishr, 1) := by decide +kernel
theorem dL_law_327 : decode cL_law 327 = .ok (.bipush 9, 2) := by decide +kernel
theorem dL_law_329 : decode cL_law 329 = .ok (.invokestatic 10, 3) := by decide +kernel
theorem dL_law_332 : decode cL_law 332 = .ok (.iadd, 1) := by decide +kernel
theorem dL_law_333 : decode cL_law 333 = .ok (.invokestatic 108, 3) := by decide +kernel
theorem dL_law_336 : decode cL_law 336 = .ok (.ifCond .eq 65, 3) := by decide +kernel
theorem dL_law_339 : decode cL_law 339 = .ok (.aload_n 1, 1) := by decide +kernel
theorem dL_law_340 : decode cL_law 340 = .ok (.iload 5, 2) := by decide +kernel
theorem dL_law_342 : decode cL_law 342 = .ok (.bipush 6, 2) := by decide +kernel
theorem dL_law_344 : decode cL_law 344 = .ok (.ishr, 1) := by decide +kernel
theorem dL_law_345 : decode cL_law 345 = .ok (.bipush 9, 2) := by decide +kernel
theorem dL_law_347 : decode cL_law 347 = .ok (.invokestatic 10, 3) := by decide +kernel
theorem dL_law_350 : decode cL_law 350 = .ok (.iload 4, 2) := by decide +kernel
theorem dL_law_352 : decode cL_law 352 = .ok (.bipush 7, 2) := by decide +kernel
theorem dL_law_354 : decode cL_law 354 = .ok (.ishr, 1) := by decide +kernel
theorem dL_law_355 : decode cL_law 355 = .ok (.bipush 9, 2) := by decide +kernel
theorem dL_law_357 : decode cL_law 357 = .ok (.invokestatic 10, 3) := by decide +kernel
theorem dL_law_360 : decode cL_law 360 = .ok (.iload 5, 2) := by decide +kernel
theorem dL_law_362 : decode cL_law 362 = .ok (.iconst 2, 1) := by decide +kernel
theorem dL_law_363 : decode cL_law 363 = .ok (.ishr, 1) := by decide +kernel
theorem dL_law_364 : decode cL_law 364 = .ok (.ldc 37, 2) := by decide +kernel
theorem dL_law_366 : decode cL_law 366 = .ok (.invokestatic 10, 3) := by decide +kernel
theorem dL_law_369 : decode cL_law 369 = .ok (.invokestatic 112, 3) := by decide +kernel
theorem dL_law_372 : decode cL_law 372 = .ok (.ifCond .eq 29, 3) := by decide +kernel
theorem dL_law_375 : decode cL_law 375 = .ok (.iload_n 3, 1) := by decide +kernel
theorem dL_law_376 : decode cL_law 376 = .ok (.iconst 5, 1) := by decide +kernel
theorem dL_law_377 : decode cL_law 377 = .ok (.irem, 1) := by decide +kernel
theorem dL_law_378 : decode cL_law 378 = .ok (.ifCond .gt 19, 3) := by decide +kernel
theorem dL_law_381 : decode cL_law 381 = .ok (.aload_n 1, 1) := by decide +kernel
theorem dL_law_382 : decode cL_law 382 = .ok (.iload 4, 2) := by decide +kernel
theorem dL_law_384 : decode cL_law 384 = .ok (.iconst 3, 1) := by decide +kernel
theorem dL_law_385 : decode cL_law 385 = .ok (.ishr, 1) := by decide +kernel
theorem dL_law_386 : decode cL_law 386 = .ok (.ldc 37, 2) := by decide +kernel
theorem dL_law_388 : decode cL_law 388 = .ok (.invokestatic 10, 3) := by decide +kernel
theorem dL_law_391 : decode cL_law 391 = .ok (.invokestatic 96, 3) := by decide +kernel
theorem dL_law_394 : decode cL_law 394 = .ok (.ifCond .eq 7, 3) := by decide +kernel
theorem dL_law_397 : decode cL_law 397 = .ok (.iconst 1, 1) := by decide +kernel
theorem dL_law_398 : decode cL_law 398 = .ok (.goto 4, 3) := by decide +kernel
theorem dL_law_401 : decode cL_law 401 = .ok (.iconst 0, 1) := by decide +kernel
theorem dL_law_402 : decode cL_law 402 = .ok (.istore_n 2, 1) := by decide +kernel
theorem dL_law_403 : decode cL_law 403 = .ok (.iinc 3 1, 3) := by decide +kernel
theorem dL_law_406 : decode cL_law 406 = .ok (.goto (-375), 3) := by decide +kernel
theorem dL_law_409 : decode cL_law 409 = .ok (.iload_n 2, 1) := by decide +kernel
theorem dL_law_410 : decode cL_law 410 = .ok (.ireturn, 1) := by decide +kernel
abbrev vwCl : List vw_C := [(RX0, TX0, 1), (RX1, TX1, 2), (RX2, TX2, 2), (RX3, TX3, 7), (RX4, TX4, 13), (RX5, TX5, 8)]
