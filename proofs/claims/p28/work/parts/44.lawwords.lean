/-! the law's words are the tables', by their places (written by wip/whole/lawwords.py) -/
set_option maxRecDepth 20000 in
theorem lwi_wsL_law_r1 : ∀ w ∈ wsL_law_r1, w ∈ lw_tbl := fun w h => (goodIn_r wsL_law_r1 [22, 23, 14, 320, 24, 25, 26, 27, 28, 29, 30, 31, 15, 163, 164, 165, 92, 93, 16, 166, 109, 110, 17, 167] (by decide +kernel) (by decide +kernel) w h).1
set_option maxRecDepth 20000 in
theorem lwi_wsL_law_r2 : ∀ w ∈ wsL_law_r2, w ∈ lw_tbl := fun w h => (goodIn_r wsL_law_r2 [139, 140, 18, 168, 149, 150, 19, 169, 170, 32, 33, 34, 35, 91, 36, 38, 41, 44, 46, 48, 50, 52, 54, 56] (by decide +kernel) (by decide +kernel) w h).1
set_option maxRecDepth 20000 in
theorem lwi_wsL_law_r3 : ∀ w ∈ wsL_law_r3, w ∈ lw_tbl := fun w h => (goodIn_r wsL_law_r3 [58, 60, 62, 94, 95, 96, 97, 98, 101, 102, 100, 112, 113, 114, 138, 115, 116, 118, 119, 120, 121, 122, 142, 143] (by decide +kernel) (by decide +kernel) w h).1
set_option maxRecDepth 20000 in
theorem lwi_wsL_law_r4 : ∀ w ∈ wsL_law_r4, w ∈ lw_tbl := fun w h => (goodIn_r wsL_law_r4 [144, 145, 152, 153, 154, 155, 156, 416, 417, 13, 418, 225, 226, 227, 228, 59, 61, 63, 103, 117, 229, 230, 231, 232] (by decide +kernel) (by decide +kernel) w h).1
set_option maxRecDepth 20000 in
theorem lwi_wsL_law_r5 : ∀ w ∈ wsL_law_r5, w ∈ lw_tbl := fun w h => (goodIn_r wsL_law_r5 [233, 235, 1, 236, 237, 238, 239, 240, 241, 242, 243, 244, 245, 246, 247, 248, 249, 250, 251, 252, 253, 254, 255, 256] (by decide +kernel) (by decide +kernel) w h).1
set_option maxRecDepth 20000 in
theorem lwi_wsL_law_r6 : ∀ w ∈ wsL_law_r6, w ∈ lw_tbl := fun w h => (goodIn_r wsL_law_r6 [419, 420, 421, 422, 423, 424, 425, 426, 427, 429, 10, 430, 431, 432, 433, 434, 43, 45, 47, 49, 51, 53, 55, 57] (by decide +kernel) (by decide +kernel) w h).1
set_option maxRecDepth 20000 in
theorem lwi_wsL_law_r7 : ∀ w ∈ wsL_law_r7, w ∈ lw_tbl := fun w h => (goodIn_r wsL_law_r7 [277, 278, 279, 280, 196, 197, 435, 436, 437, 438, 439, 37, 40, 192, 193, 194, 195, 440, 395, 396, 397, 441, 442, 443] (by decide +kernel) (by decide +kernel) w h).1
set_option maxRecDepth 20000 in
theorem lwi_wsL_law_r8 : ∀ w ∈ wsL_law_r8, w ∈ lw_tbl := fun w h => (goodIn_r wsL_law_r8 [444, 445, 446, 447, 448, 449, 450, 451, 452, 453, 454, 455, 456, 458, 11, 459, 302, 488, 489, 490, 460, 461, 462, 463] (by decide +kernel) (by decide +kernel) w h).1
set_option maxRecDepth 20000 in
theorem lwi_wsL_law_r9 : ∀ w ∈ wsL_law_r9, w ∈ lw_tbl := fun w h => (goodIn_r wsL_law_r9 [464, 385, 386, 387, 388, 389, 157, 198, 199, 200, 201, 202, 204, 0, 205, 206, 207, 208, 209, 210, 212, 211, 20, 338] (by decide +kernel) (by decide +kernel) w h).1
set_option maxRecDepth 20000 in
theorem lwi_wsL_law_r10 : ∀ w ∈ wsL_law_r10, w ∈ lw_tbl := fun w h => (goodIn_r wsL_law_r10 [339, 340, 341, 390, 391, 392, 393, 394, 398, 400, 9, 401, 39, 42, 402, 357, 358, 359, 360, 403, 404, 405, 406, 342] (by decide +kernel) (by decide +kernel) w h).1
set_option maxRecDepth 20000 in
theorem lwi_wsL_law_r11 : ∀ w ∈ wsL_law_r11, w ∈ lw_tbl := fun w h => (goodIn_r wsL_law_r11 [343, 344, 345, 346, 347, 21, 348, 349, 350, 351, 334, 336, 4, 337, 352, 353, 354, 355, 356, 361, 362, 363, 364, 365] (by decide +kernel) (by decide +kernel) w h).1
set_option maxRecDepth 20000 in
theorem lwi_wsL_law_r12 : ∀ w ∈ wsL_law_r12, w ∈ lw_tbl := fun w h => (goodIn_r wsL_law_r12 [366, 367, 368, 370, 5, 371, 372, 313, 314, 315, 316, 318, 2, 319, 373, 375, 6, 376, 377, 379, 7, 380, 381, 383] (by decide +kernel) (by decide +kernel) w h).1
set_option maxRecDepth 20000 in
theorem lwi_wsL_law_r13 : ∀ w ∈ wsL_law_r13, w ∈ lw_tbl := fun w h => (goodIn_r wsL_law_r13 [8, 384, 217, 218, 219, 220, 221, 222, 223, 224, 257, 258, 259, 260, 261, 262, 263, 264, 265, 188, 189, 190, 191, 213] (by decide +kernel) (by decide +kernel) w h).1
set_option maxRecDepth 20000 in
theorem lwi_wsL_law_r14 : ∀ w ∈ wsL_law_r14, w ∈ lw_tbl := fun w h => (goodIn_r wsL_law_r14 [214, 215, 216, 266, 267, 268, 269, 270, 271, 272, 273, 274, 275, 276, 282, 283, 284, 285, 286, 287, 288, 289, 290, 291] (by decide +kernel) (by decide +kernel) w h).1
set_option maxRecDepth 20000 in
theorem lwi_wsL_law_r15 : ∀ w ∈ wsL_law_r15, w ∈ lw_tbl := fun w h => (goodIn_r wsL_law_r15 [292, 293, 294, 295, 296, 297, 298, 299, 300, 301, 303, 304, 305, 306, 307, 308, 309, 310, 311, 312, 321, 322, 323, 324] (by decide +kernel) (by decide +kernel) w h).1
set_option maxRecDepth 20000 in
theorem lwi_wsL_law_r16 : ∀ w ∈ wsL_law_r16, w ∈ lw_tbl := fun w h => (goodIn_r wsL_law_r16 [325, 326, 327, 328, 329, 330, 332, 3, 333, 407, 408, 409, 410, 411, 412, 413, 414, 415, 465, 466, 467, 468, 469, 470] (by decide +kernel) (by decide +kernel) w h).1
set_option maxRecDepth 20000 in
theorem lwi_wsL_law_r17 : ∀ w ∈ wsL_law_r17, w ∈ lw_tbl := fun w h => (goodIn_r wsL_law_r17 [471, 472, 474, 12, 475, 476, 477, 478, 479, 480, 481, 482, 483, 484, 485, 486, 487] (by decide +kernel) (by decide +kernel) w h).1
set_option maxRecDepth 20000 in
theorem lwi_wsX50 : ∀ w ∈ wsX50, w ∈ lw_tbl := fun w h => (goodIn_r wsX50 [171, 173, 175, 177, 179, 181, 183, 185] (by decide +kernel) (by decide +kernel) w h).1
set_option maxRecDepth 20000 in
theorem lwi_wsX40 : ∀ w ∈ wsX40, w ∈ lw_tbl := fun w h => (goodIn_r wsX40 [64, 66, 68, 70, 72, 74, 76, 78, 80, 82, 84, 86, 88] (by decide +kernel) (by decide +kernel) w h).1
set_option maxRecDepth 20000 in
theorem lwi_wsX10 : ∀ w ∈ wsX10, w ∈ lw_tbl := fun w h => (goodIn_r wsX10 [104, 106] (by decide +kernel) (by decide +kernel) w h).1
set_option maxRecDepth 20000 in
theorem lwi_wsX30 : ∀ w ∈ wsX30, w ∈ lw_tbl := fun w h => (goodIn_r wsX30 [123, 125, 127, 129, 131, 133, 135] (by decide +kernel) (by decide +kernel) w h).1
set_option maxRecDepth 20000 in
theorem lwi_wsX00 : ∀ w ∈ wsX00, w ∈ lw_tbl := fun w h => (goodIn_r wsX00 [146] (by decide +kernel) (by decide +kernel) w h).1
set_option maxRecDepth 20000 in
theorem lwi_wsX20 : ∀ w ∈ wsX20, w ∈ lw_tbl := fun w h => (goodIn_r wsX20 [158, 160] (by decide +kernel) (by decide +kernel) w h).1
theorem wsL_law_in : ∀ w ∈ wsL_law, w ∈ lw_tbl := by
  intro w h
  unfold wsL_law at h
  simp only [List.mem_append] at h
  rcases h with (((((((h | h | h | h | h | h | h | h | h | h | h | h | h | h | h | h | h) | h) | h) | h) | h) | h) | h) | h
  · exact lwi_wsL_law_r1 w h
  · exact lwi_wsL_law_r2 w h
  · exact lwi_wsL_law_r3 w h
  · exact lwi_wsL_law_r4 w h
  · exact lwi_wsL_law_r5 w h
  · exact lwi_wsL_law_r6 w h
  · exact lwi_wsL_law_r7 w h
  · exact lwi_wsL_law_r8 w h
  · exact lwi_wsL_law_r9 w h
  · exact lwi_wsL_law_r10 w h
  · exact lwi_wsL_law_r11 w h
  · exact lwi_wsL_law_r12 w h
  · exact lwi_wsL_law_r13 w h
  · exact lwi_wsL_law_r14 w h
  · exact lwi_wsL_law_r15 w h
  · exact lwi_wsL_law_r16 w h
  · exact lwi_wsL_law_r17 w h
  · exact lwi_wsX50 w h
  · exact lwi_wsX40 w h
  · exact lwi_wsX10 w h
  · exact lwi_wsX30 w h
  · exact lwi_wsX00 w h
  · exact lwi_wsX20 w h
  · cases h

theorem inX0 : ∀ w ∈ wsX00, w ∈ lw_tbl := fun w h => wsL_law_in w (inlX0 w h)
theorem inX1 : ∀ w ∈ wsX10, w ∈ lw_tbl := fun w h => wsL_law_in w (inlX1 w h)
theorem inX2 : ∀ w ∈ wsX20, w ∈ lw_tbl := fun w h => wsL_law_in w (inlX2 w h)
theorem inX3 : ∀ w ∈ wsX30, w ∈ lw_tbl := fun w h => wsL_law_in w (inlX3 w h)
theorem inX4 : ∀ w ∈ wsX40, w ∈ lw_tbl := fun w h => wsL_law_in w (inlX4 w h)
theorem inX5 : ∀ w ∈ wsX50, w ∈ lw_tbl := fun w h => wsL_law_in w (inlX5 w h)
