/-! the law's words are the tables', by their places (written by wip/whole/lawwords.py) -/
set_option maxRecDepth 20000 in
theorem lwi_wsL_law_r1 : ∀ w ∈ wsL_law_r1, w ∈ lw_tbl := fun w h => (goodIn_r wsL_law_r1 [56, 57, 47, 556, 557, 53, 58, 59, 60, 61, 62, 63, 64, 65, 48, 202, 203, 204, 126, 127, 49, 205, 143, 144] (by decide +kernel) (by decide +kernel) w h).1
set_option maxRecDepth 20000 in
theorem lwi_wsL_law_r2 : ∀ w ∈ wsL_law_r2, w ∈ lw_tbl := fun w h => (goodIn_r wsL_law_r2 [50, 206, 178, 179, 51, 207, 188, 189, 52, 208, 209, 66, 67, 68, 69, 125, 70, 72, 75, 78, 80, 82, 84, 86] (by decide +kernel) (by decide +kernel) w h).1
set_option maxRecDepth 20000 in
theorem lwi_wsL_law_r3 : ∀ w ∈ wsL_law_r3, w ∈ lw_tbl := fun w h => (goodIn_r wsL_law_r3 [88, 90, 92, 94, 96, 128, 129, 130, 131, 132, 135, 136, 134, 146, 147, 148, 177, 149, 151, 153, 154, 156, 158, 160] (by decide +kernel) (by decide +kernel) w h).1
set_option maxRecDepth 20000 in
theorem lwi_wsL_law_r4 : ∀ w ∈ wsL_law_r4, w ∈ lw_tbl := fun w h => (goodIn_r wsL_law_r4 [181, 182, 183, 184, 191, 192, 193, 194, 195, 558, 559, 560, 561, 562, 565, 568, 569, 227, 228, 229, 230, 71, 93, 231] (by decide +kernel) (by decide +kernel) w h).1
set_option maxRecDepth 20000 in
theorem lwi_wsL_law_r5 : ∀ w ∈ wsL_law_r5, w ∈ lw_tbl := fun w h => (goodIn_r wsL_law_r5 [232, 233, 234, 235, 236, 237, 238, 239, 240, 241, 243, 0, 244, 245, 246, 247, 248, 249, 251, 250, 54, 252, 253, 254] (by decide +kernel) (by decide +kernel) w h).1
set_option maxRecDepth 20000 in
theorem lwi_wsL_law_r6 : ∀ w ∈ wsL_law_r6, w ∈ lw_tbl := fun w h => (goodIn_r wsL_law_r6 [255, 602, 603, 604, 605, 606, 607, 608, 609, 610, 611, 612, 614, 17, 615, 563, 616, 618, 18, 619, 620, 621, 622, 256] (by decide +kernel) (by decide +kernel) w h).1
set_option maxRecDepth 20000 in
theorem lwi_wsL_law_r7 : ∀ w ∈ wsL_law_r7, w ∈ lw_tbl := fun w h => (goodIn_r wsL_law_r7 [257, 258, 259, 623, 624, 625, 626, 260, 261, 262, 263, 264, 265, 266, 267, 269, 271, 1, 272, 273, 274, 275, 276, 277] (by decide +kernel) (by decide +kernel) w h).1
set_option maxRecDepth 20000 in
theorem lwi_wsL_law_r8 : ∀ w ∈ wsL_law_r8, w ∈ lw_tbl := fun w h => (goodIn_r wsL_law_r8 [279, 2, 280, 281, 282, 283, 284, 288, 289, 55, 290, 285, 286, 287, 291, 293, 3, 294, 295, 296, 297, 298, 299, 301] (by decide +kernel) (by decide +kernel) w h).1
set_option maxRecDepth 20000 in
theorem lwi_wsL_law_r9 : ∀ w ∈ wsL_law_r9, w ∈ lw_tbl := fun w h => (goodIn_r wsL_law_r9 [4, 302, 303, 305, 5, 306, 307, 309, 6, 310, 311, 313, 7, 314, 627, 628, 629, 630, 631, 633, 19, 634, 635, 637] (by decide +kernel) (by decide +kernel) w h).1
set_option maxRecDepth 20000 in
theorem lwi_wsL_law_r10 : ∀ w ∈ wsL_law_r10, w ∈ lw_tbl := fun w h => (goodIn_r wsL_law_r10 [20, 638, 639, 641, 21, 642, 643, 645, 22, 646, 647, 648, 649, 650, 652, 23, 653, 654, 655, 656, 315, 316, 317, 318] (by decide +kernel) (by decide +kernel) w h).1
set_option maxRecDepth 20000 in
theorem lwi_wsL_law_r11 : ∀ w ∈ wsL_law_r11, w ∈ lw_tbl := fun w h => (goodIn_r wsL_law_r11 [319, 320, 321, 322, 323, 324, 325, 326, 327, 328, 329, 330, 657, 658, 659, 660, 661, 663, 24, 664, 665, 667, 25, 668] (by decide +kernel) (by decide +kernel) w h).1
set_option maxRecDepth 20000 in
theorem lwi_wsL_law_r12 : ∀ w ∈ wsL_law_r12, w ∈ lw_tbl := fun w h => (goodIn_r wsL_law_r12 [669, 671, 26, 672, 331, 332, 333, 334, 335, 336, 673, 674, 675, 676, 677, 679, 27, 680, 681, 683, 28, 684, 337, 338] (by decide +kernel) (by decide +kernel) w h).1
set_option maxRecDepth 20000 in
theorem lwi_wsL_law_r13 : ∀ w ∈ wsL_law_r13, w ∈ lw_tbl := fun w h => (goodIn_r wsL_law_r13 [339, 340, 89, 87, 341, 685, 686, 687, 688, 342, 343, 344, 345, 77, 346, 347, 348, 349, 689, 690, 691, 692, 350, 351] (by decide +kernel) (by decide +kernel) w h).1
set_option maxRecDepth 20000 in
theorem lwi_wsL_law_r14 : ∀ w ∈ wsL_law_r14, w ∈ lw_tbl := fun w h => (goodIn_r wsL_law_r14 [352, 353, 354, 355, 356, 357, 358, 359, 360, 361, 362, 363, 364, 365, 366, 367, 368, 369, 370, 371, 372, 373, 374, 375] (by decide +kernel) (by decide +kernel) w h).1
set_option maxRecDepth 20000 in
theorem lwi_wsL_law_r15 : ∀ w ∈ wsL_law_r15, w ∈ lw_tbl := fun w h => (goodIn_r wsL_law_r15 [376, 377, 378, 379, 693, 694, 695, 696, 567, 697, 699, 29, 700, 701, 702, 704, 30, 705, 706, 708, 31, 709, 710, 380] (by decide +kernel) (by decide +kernel) w h).1
set_option maxRecDepth 20000 in
theorem lwi_wsL_law_r16 : ∀ w ∈ wsL_law_r16, w ∈ lw_tbl := fun w h => (goodIn_r wsL_law_r16 [381, 382, 383, 384, 196, 385, 386, 387, 388, 389, 390, 391, 392, 393, 395, 8, 396, 73, 76, 397, 398, 399, 400, 401] (by decide +kernel) (by decide +kernel) w h).1
set_option maxRecDepth 20000 in
theorem lwi_wsL_law_r17 : ∀ w ∈ wsL_law_r17, w ∈ lw_tbl := fun w h => (goodIn_r wsL_law_r17 [711, 712, 713, 714, 715, 717, 32, 718, 719, 721, 33, 722, 402, 403, 404, 405, 152, 150, 723, 724, 725, 726, 566, 406] (by decide +kernel) (by decide +kernel) w h).1
set_option maxRecDepth 20000 in
theorem lwi_wsL_law_r18 : ∀ w ∈ wsL_law_r18, w ∈ lw_tbl := fun w h => (goodIn_r wsL_law_r18 [407, 408, 409, 727, 728, 729, 730, 410, 411, 412, 413, 414, 415, 416, 417, 418, 419, 420, 421, 422, 423, 424, 425, 426] (by decide +kernel) (by decide +kernel) w h).1
set_option maxRecDepth 20000 in
theorem lwi_wsL_law_r19 : ∀ w ∈ wsL_law_r19, w ∈ lw_tbl := fun w h => (goodIn_r wsL_law_r19 [428, 9, 429, 430, 432, 10, 433, 434, 436, 11, 437, 438, 439, 440, 441, 731, 732, 733, 734, 570, 735, 737, 34, 738] (by decide +kernel) (by decide +kernel) w h).1
set_option maxRecDepth 20000 in
theorem lwi_wsL_law_r20 : ∀ w ∈ wsL_law_r20, w ∈ lw_tbl := fun w h => (goodIn_r wsL_law_r20 [571, 572, 573, 574, 739, 741, 35, 742, 743, 745, 36, 746, 747, 749, 37, 750, 442, 443, 444, 445, 446, 447, 448, 450] (by decide +kernel) (by decide +kernel) w h).1
set_option maxRecDepth 20000 in
theorem lwi_wsL_law_r21 : ∀ w ∈ wsL_law_r21, w ∈ lw_tbl := fun w h => (goodIn_r wsL_law_r21 [12, 451, 155, 157, 159, 161, 452, 751, 752, 753, 754, 755, 756, 758, 38, 759, 760, 762, 39, 763, 453, 454, 455, 456] (by decide +kernel) (by decide +kernel) w h).1
set_option maxRecDepth 20000 in
theorem lwi_wsL_law_r22 : ∀ w ∈ wsL_law_r22, w ∈ lw_tbl := fun w h => (goodIn_r wsL_law_r22 [457, 458, 459, 460, 764, 765, 766, 767, 461, 462, 463, 464, 465, 466, 467, 468, 469, 470, 472, 13, 473, 768, 769, 770] (by decide +kernel) (by decide +kernel) w h).1
set_option maxRecDepth 20000 in
theorem lwi_wsL_law_r23 : ∀ w ∈ wsL_law_r23, w ∈ lw_tbl := fun w h => (goodIn_r wsL_law_r23 [771, 564, 772, 774, 40, 775, 474, 475, 476, 477, 776, 777, 778, 779, 478, 479, 480, 481, 79, 81, 83, 85, 91, 482] (by decide +kernel) (by decide +kernel) w h).1
set_option maxRecDepth 20000 in
theorem lwi_wsL_law_r24 : ∀ w ∈ wsL_law_r24, w ∈ lw_tbl := fun w h => (goodIn_r wsL_law_r24 [483, 484, 485, 780, 781, 782, 783, 784, 786, 41, 787, 486, 487, 488, 489, 74, 490, 491, 492, 493, 494, 788, 789, 790] (by decide +kernel) (by decide +kernel) w h).1
set_option maxRecDepth 20000 in
theorem lwi_wsL_law_r25 : ∀ w ∈ wsL_law_r25, w ∈ lw_tbl := fun w h => (goodIn_r wsL_law_r25 [791, 792, 794, 42, 795, 495, 496, 497, 498, 499, 500, 501, 502, 503, 505, 14, 506, 796, 797, 798, 799, 800, 802, 43] (by decide +kernel) (by decide +kernel) w h).1
set_option maxRecDepth 20000 in
theorem lwi_wsL_law_r26 : ∀ w ∈ wsL_law_r26, w ∈ lw_tbl := fun w h => (goodIn_r wsL_law_r26 [803, 507, 508, 509, 510, 511, 512, 513, 514, 515, 517, 15, 518, 804, 805, 806, 807, 808, 810, 44, 811, 519, 520, 521] (by decide +kernel) (by decide +kernel) w h).1
set_option maxRecDepth 20000 in
theorem lwi_wsL_law_r27 : ∀ w ∈ wsL_law_r27, w ∈ lw_tbl := fun w h => (goodIn_r wsL_law_r27 [522, 95, 97, 137, 523, 524, 525, 526, 527, 528, 529, 530, 531, 532, 533, 534, 535, 812, 813, 814, 815, 816, 818, 45] (by decide +kernel) (by decide +kernel) w h).1
set_option maxRecDepth 20000 in
theorem lwi_wsL_law_r28 : ∀ w ∈ wsL_law_r28, w ∈ lw_tbl := fun w h => (goodIn_r wsL_law_r28 [819, 536, 537, 538, 539, 540, 542, 16, 543, 820, 821, 822, 823, 544, 545, 546, 547, 824, 825, 826, 827, 548, 549, 550] (by decide +kernel) (by decide +kernel) w h).1
set_option maxRecDepth 20000 in
theorem lwi_wsL_law_r29 : ∀ w ∈ wsL_law_r29, w ∈ lw_tbl := fun w h => (goodIn_r wsL_law_r29 [551, 828, 829, 830, 831, 552, 553, 554, 555, 832, 833, 834, 835] (by decide +kernel) (by decide +kernel) w h).1
set_option maxRecDepth 20000 in
theorem lwi_wsX50 : ∀ w ∈ wsX50, w ∈ lw_tbl := fun w h => (goodIn_r wsX50 [210, 212, 214, 216, 218, 220, 222, 224] (by decide +kernel) (by decide +kernel) w h).1
set_option maxRecDepth 20000 in
theorem lwi_wsX60 : ∀ w ∈ wsX60, w ∈ lw_tbl := fun w h => (goodIn_r wsX60 [575, 577, 579, 581, 583, 585, 587, 589, 591, 593, 595, 597, 599] (by decide +kernel) (by decide +kernel) w h).1
set_option maxRecDepth 20000 in
theorem lwi_wsX40 : ∀ w ∈ wsX40, w ∈ lw_tbl := fun w h => (goodIn_r wsX40 [98, 100, 102, 104, 106, 108, 110, 112, 114, 116, 118, 120, 122] (by decide +kernel) (by decide +kernel) w h).1
set_option maxRecDepth 20000 in
theorem lwi_wsX10 : ∀ w ∈ wsX10, w ∈ lw_tbl := fun w h => (goodIn_r wsX10 [138, 140] (by decide +kernel) (by decide +kernel) w h).1
set_option maxRecDepth 20000 in
theorem lwi_wsX30 : ∀ w ∈ wsX30, w ∈ lw_tbl := fun w h => (goodIn_r wsX30 [162, 164, 166, 168, 170, 172, 174] (by decide +kernel) (by decide +kernel) w h).1
set_option maxRecDepth 20000 in
theorem lwi_wsX00 : ∀ w ∈ wsX00, w ∈ lw_tbl := fun w h => (goodIn_r wsX00 [185] (by decide +kernel) (by decide +kernel) w h).1
set_option maxRecDepth 20000 in
theorem lwi_wsX20 : ∀ w ∈ wsX20, w ∈ lw_tbl := fun w h => (goodIn_r wsX20 [197, 199] (by decide +kernel) (by decide +kernel) w h).1
theorem wsL_law_in : ∀ w ∈ wsL_law, w ∈ lw_tbl := by
  intro w h
  unfold wsL_law at h
  simp only [List.mem_append] at h
  rcases h with ((((((((h | h | h | h | h | h | h | h | h | h | h | h | h | h | h | h | h | h | h | h | h | h | h | h | h | h | h | h | h) | h) | h) | h) | h) | h) | h) | h) | h
  · exact lwi_wsL_law_r1 w h
  · exact lwi_wsL_law_r2 w h
  · exact lwi_wsL_law_r3 w h
  · exact lwi_wsL_law_r4 w h
  · exact lwi_wsL_law_r5 w h
  · exact lwi_wsL_law_r6 w h
  · exact lwi_wsL_law_r7 w h
  · exact lwi_wsL_law_r8 w h
  · exact lwi_wsL_law_r9 w h
  · exact lwi_wsL_law_r10 w h
  · exact lwi_wsL_law_r11 w h
  · exact lwi_wsL_law_r12 w h
  · exact lwi_wsL_law_r13 w h
  · exact lwi_wsL_law_r14 w h
  · exact lwi_wsL_law_r15 w h
  · exact lwi_wsL_law_r16 w h
  · exact lwi_wsL_law_r17 w h
  · exact lwi_wsL_law_r18 w h
  · exact lwi_wsL_law_r19 w h
  · exact lwi_wsL_law_r20 w h
  · exact lwi_wsL_law_r21 w h
  · exact lwi_wsL_law_r22 w h
  · exact lwi_wsL_law_r23 w h
  · exact lwi_wsL_law_r24 w h
  · exact lwi_wsL_law_r25 w h
  · exact lwi_wsL_law_r26 w h
  · exact lwi_wsL_law_r27 w h
  · exact lwi_wsL_law_r28 w h
  · exact lwi_wsL_law_r29 w h
  · exact lwi_wsX50 w h
  · exact lwi_wsX60 w h
  · exact lwi_wsX40 w h
  · exact lwi_wsX10 w h
  · exact lwi_wsX30 w h
  · exact lwi_wsX00 w h
  · exact lwi_wsX20 w h
  · cases h

theorem inX0 : ∀ w ∈ wsX00, w ∈ lw_tbl := fun w h => wsL_law_in w (inlX0 w h)
theorem inX1 : ∀ w ∈ wsX10, w ∈ lw_tbl := fun w h => wsL_law_in w (inlX1 w h)
theorem inX2 : ∀ w ∈ wsX20, w ∈ lw_tbl := fun w h => wsL_law_in w (inlX2 w h)
theorem inX3 : ∀ w ∈ wsX30, w ∈ lw_tbl := fun w h => wsL_law_in w (inlX3 w h)
theorem inX4 : ∀ w ∈ wsX40, w ∈ lw_tbl := fun w h => wsL_law_in w (inlX4 w h)
theorem inX5 : ∀ w ∈ wsX50, w ∈ lw_tbl := fun w h => wsL_law_in w (inlX5 w h)
theorem inX6 : ∀ w ∈ wsX60, w ∈ lw_tbl := fun w h => wsL_law_in w (inlX6 w h)
