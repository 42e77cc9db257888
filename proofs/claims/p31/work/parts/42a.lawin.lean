theorem goodIn_h {big ws : List Cond} {a : Cond} (h : a ∈ big) (hg : goodWord a = true) (hr : GoodIn big ws) : GoodIn big (a :: ws) := fun w hw => (List.mem_cons.mp hw).elim (fun e => e ▸ ⟨h, good_of_word hg⟩) (hr w)
theorem mem_r {big : List Cond} (ws : List Cond) (ps : List Nat) (hp : ws = ps.filterMap (fun i => big[i]?)) : ∀ w ∈ ws, w ∈ big := by
  intro w hw
  rw [hp] at hw
  obtain ⟨i, -, hi⟩ := List.mem_filterMap.mp hw
  first | exact List.mem_of_getElem? hi | exact List.getElem?_mem hi
set_option maxRecDepth 20000 in
theorem wsL_law_m1 : ∀ w ∈ wsL_law0_r1, w ∈ lw_tbl := mem_r _ [32, 33, 14, 34, 35, 36, 37, 38, 39, 40, 41, 15, 277, 278, 257, 258, 22, 279, 43, 44, 45, 46, 47, 16] (by decide +kernel)
set_option maxRecDepth 20000 in
theorem wsL_law_m2 : ∀ w ∈ wsL_law0_r2, w ∈ lw_tbl := mem_r _ [226, 70, 71, 17, 228, 104, 105, 18, 230, 145, 146, 19, 232, 169, 170, 20, 234, 197, 198, 21, 236, 69, 238, 49] (by decide +kernel)
set_option maxRecDepth 20000 in
theorem wsL_law_m3 : ∀ w ∈ wsL_law0_r3, w ∈ lw_tbl := mem_r _ [50, 51, 52, 55, 59, 73, 74, 75, 83, 86, 107, 108, 109, 113, 115, 117, 119, 121, 123, 126, 148, 149, 150, 151] (by decide +kernel)
set_option maxRecDepth 20000 in
theorem wsL_law_m4 : ∀ w ∈ wsL_law0_r4, w ∈ lw_tbl := mem_r _ [153, 155, 157, 172, 173, 174, 178, 180, 182, 184, 200, 201, 202, 206, 207, 209, 211, 259, 260, 261, 262, 263, 266, 794] (by decide +kernel)
set_option maxRecDepth 20000 in
theorem wsL_law_m5 : ∀ w ∈ wsL_law0_r5, w ∈ lw_tbl := mem_r _ [795, 13, 796, 587, 797, 798, 799, 800, 593, 26, 269, 802, 803, 804, 805, 268, 410, 412, 2, 413, 267, 414, 415, 416] (by decide +kernel)
set_option maxRecDepth 20000 in
theorem wsL_law_m6 : ∀ w ∈ wsL_law0_r6, w ∈ lw_tbl := mem_r _ [417, 224, 418, 419, 420, 421, 58, 423, 424, 425, 426, 27, 427, 428, 430, 429, 28, 431, 432, 433, 434, 76, 79, 81] (by decide +kernel)
set_option maxRecDepth 20000 in
theorem wsL_law_m7 : ∀ w ∈ wsL_law0_r7, w ∈ lw_tbl := mem_r _ [89, 435, 436, 437, 438, 110, 440, 441, 442, 443, 445, 446, 447, 448, 175, 450, 451, 452, 453, 203, 576, 577, 578, 330] (by decide +kernel)
set_option maxRecDepth 20000 in
theorem wsL_law_m8 : ∀ w ∈ wsL_law0_r8, w ∈ lw_tbl := mem_r _ [579, 580, 581, 582, 338, 29, 335, 336, 337, 558, 559, 560, 561, 82, 152, 154, 90, 84, 80, 54, 77, 87, 111, 176] (by decide +kernel)
set_option maxRecDepth 20000 in
theorem wsL_law_m9 : ∀ w ∈ wsL_law0_r9, w ∈ lw_tbl := mem_r _ [204, 315, 316, 317, 318, 303, 304, 305, 306, 287, 288, 289, 290, 291, 292, 293, 294, 295, 297, 0, 298, 181, 183, 179] (by decide +kernel)
set_option maxRecDepth 20000 in
theorem wsL_law_h10 : Cond.code yL_refused cL_refused 6 (some .boolean) ∈ lw_tbl := List.mem_append_right _ (List.mem_append_right _ (List.mem_append_right _ (List.mem_append_right _ (List.mem_of_getElem? (i := 75) rfl))))
set_option maxRecDepth 20000 in
theorem wsL_law_ma10 : ∀ w ∈ [Cond.methodLink RX7 186 yX3_smokeIn, Cond.instanceMethod yX3_smokeIn, Cond.selects RX3 yX3_smokeIn yX3_smokeIn, Cond.code yX3_smokeIn cX3_smokeIn 2 (some .int), Cond.methodLink RX7 202 yX3_isRoom, Cond.instanceMethod yX3_isRoom, Cond.selects RX3 yX3_isRoom yX3_isRoom, Cond.code yX3_isRoom cX3_isRoom 2 (some .boolean), Cond.methodLink RX7 145 yX0_soundsIn, Cond.instanceMethod yX0_soundsIn, Cond.selects RX0 yX0_soundsIn yX0_soundsIn, Cond.code yX0_soundsIn cX0_soundsIn 2 (some .boolean), Cond.methodLink RL 178 yL_refused, Cond.static yL_refused], w ∈ lw_tbl := mem_r _ [299, 300, 301, 302, 307, 308, 309, 310, 311, 312, 313, 314, 806, 807] (by decide +kernel)
set_option maxRecDepth 20000 in
theorem wsL_law_mb10 : ∀ w ∈ [Cond.constant RL 135 (100000), Cond.methodLink RL 117 yL_print, Cond.static yL_print, Cond.code yL_print cL_print 4 (some .long), Cond.methodLink RL 108 yL_setTarget, Cond.static yL_setTarget, Cond.codeWith yL_setTarget cL_setTarget 4 (some .int) [(0, 6, 9, 15)], Cond.methodLink RL 30 yX8_setTarget, Cond.instanceMethod yX8_setTarget], w ∈ lw_tbl := mem_r _ [845, 809, 810, 811, 537, 538, 539, 540, 541] (by decide +kernel)
theorem wsL_law_m10 : ∀ w ∈ wsL_law0_r10, w ∈ lw_tbl := fun w h => (List.mem_append.mp (show w ∈ [Cond.methodLink RX7 186 yX3_smokeIn, Cond.instanceMethod yX3_smokeIn, Cond.selects RX3 yX3_smokeIn yX3_smokeIn, Cond.code yX3_smokeIn cX3_smokeIn 2 (some .int), Cond.methodLink RX7 202 yX3_isRoom, Cond.instanceMethod yX3_isRoom, Cond.selects RX3 yX3_isRoom yX3_isRoom, Cond.code yX3_isRoom cX3_isRoom 2 (some .boolean), Cond.methodLink RX7 145 yX0_soundsIn, Cond.instanceMethod yX0_soundsIn, Cond.selects RX0 yX0_soundsIn yX0_soundsIn, Cond.code yX0_soundsIn cX0_soundsIn 2 (some .boolean), Cond.methodLink RL 178 yL_refused, Cond.static yL_refused] ++ (Cond.code yL_refused cL_refused 6 (some .boolean) :: [Cond.constant RL 135 (100000), Cond.methodLink RL 117 yL_print, Cond.static yL_print, Cond.code yL_print cL_print 4 (some .long), Cond.methodLink RL 108 yL_setTarget, Cond.static yL_setTarget, Cond.codeWith yL_setTarget cL_setTarget 4 (some .int) [(0, 6, 9, 15)], Cond.methodLink RL 30 yX8_setTarget, Cond.instanceMethod yX8_setTarget]) from h)).elim (wsL_law_ma10 w) (fun h => (List.mem_cons.mp h).elim (fun e => e ▸ wsL_law_h10) (wsL_law_mb10 w))
set_option maxRecDepth 20000 in
theorem wsL_law_m11 : ∀ w ∈ wsL_law0_r11, w ∈ lw_tbl := mem_r _ [542, 543, 229, 88, 406, 407, 408, 409, 812, 813, 814, 815, 816, 231, 112, 237, 205, 239, 817, 818, 819, 820, 821, 823] (by decide +kernel)
set_option maxRecDepth 20000 in
theorem wsL_law_m12 : ∀ w ∈ wsL_law0_r12, w ∈ lw_tbl := mem_r _ [10, 824, 227, 53, 825, 826, 827, 828, 56, 156, 158, 757, 758, 759, 760, 761, 762, 763, 764, 765, 766, 767, 768, 769] (by decide +kernel)
set_option maxRecDepth 20000 in
theorem wsL_law_m13 : ∀ w ∈ wsL_law0_r13, w ∈ lw_tbl := mem_r _ [770, 30, 771, 772, 773, 774, 775, 776, 777, 778, 513, 514, 515, 516, 517, 518, 519, 829, 830, 831, 832, 114, 116, 118] (by decide +kernel)
set_option maxRecDepth 20000 in
theorem wsL_law_m14 : ∀ w ∈ wsL_law0_r14, w ∈ lw_tbl := mem_r _ [120, 122, 124, 127, 744, 745, 746, 747, 833, 834, 835, 836, 837, 327, 328, 329, 331, 332, 333, 334, 456, 457, 458, 459] (by decide +kernel)
set_option maxRecDepth 20000 in
theorem wsL_law_m15 : ∀ w ∈ wsL_law0_r15, w ∈ lw_tbl := mem_r _ [460, 461, 462, 463, 464, 465, 466, 467, 468, 469, 470, 471, 472, 473, 474, 475, 476, 477, 478, 479, 480, 481, 482, 483] (by decide +kernel)
set_option maxRecDepth 20000 in
theorem wsL_law_m16 : ∀ w ∈ wsL_law0_r16, w ∈ lw_tbl := mem_r _ [484, 485, 486, 487, 488, 489, 490, 491, 496, 31, 492, 493, 494, 495, 520, 521, 522, 523, 838, 839, 840, 841, 842, 843] (by decide +kernel)
set_option maxRecDepth 20000 in
theorem wsL_law_m17 : ∀ w ∈ wsL_law0_r17, w ∈ lw_tbl := mem_r _ [844, 524, 525, 526, 527, 528, 529, 530, 78, 532, 533, 534, 535, 536, 545, 546, 547, 548, 549, 550, 551, 553, 555, 562] (by decide +kernel)
set_option maxRecDepth 20000 in
theorem wsL_law_m18 : ∀ w ∈ wsL_law0_r18, w ∈ lw_tbl := mem_r _ [563, 564, 565, 566, 567, 568, 569, 570, 571, 572, 574, 57, 573, 846, 847, 848, 849, 850, 851, 852, 584, 585, 586, 588] (by decide +kernel)
set_option maxRecDepth 20000 in
theorem wsL_law_m19 : ∀ w ∈ wsL_law0_r19, w ∈ lw_tbl := mem_r _ [589, 590, 591, 609, 610, 611, 612, 613, 614, 615, 616, 617, 618, 619, 125, 620, 621, 622, 623, 854, 855, 856, 857, 858] (by decide +kernel)
set_option maxRecDepth 20000 in
theorem wsL_law_m20 : ∀ w ∈ wsL_law0_r20, w ∈ lw_tbl := mem_r _ [859, 860, 626, 627, 628, 629, 630, 631, 632, 235, 177, 635, 636, 637, 638, 639, 640, 641, 642, 643, 644, 645, 646, 647] (by decide +kernel)
set_option maxRecDepth 20000 in
theorem wsL_law_m21 : ∀ w ∈ wsL_law0_r21, w ∈ lw_tbl := mem_r _ [648, 649, 651, 652, 653, 654, 655, 656, 657, 658, 659, 660, 661, 225, 663, 664, 665, 666, 667, 669, 672, 673, 674, 675] (by decide +kernel)
set_option maxRecDepth 20000 in
theorem wsL_law_m22 : ∀ w ∈ wsL_law0_r22, w ∈ lw_tbl := mem_r _ [676, 678, 3, 679, 862, 863, 864, 865, 866, 867, 868, 870, 871, 872, 873, 680, 681, 682, 683, 684, 685, 686, 233, 159] (by decide +kernel)
set_option maxRecDepth 20000 in
theorem wsL_law_m23 : ∀ w ∈ wsL_law0_r23, w ∈ lw_tbl := mem_r _ [688, 689, 690, 691, 692, 693, 694, 696, 697, 698, 699, 700, 702, 4, 703, 704, 705, 706, 707, 708, 710, 5, 711, 210] (by decide +kernel)
set_option maxRecDepth 20000 in
theorem wsL_law_m24 : ∀ w ∈ wsL_law0_r24, w ∈ lw_tbl := mem_r _ [212, 208, 712, 713, 714, 715, 716, 717, 718, 719, 720, 721, 722, 723, 724, 725, 726, 727, 728, 730, 6, 731, 732, 733] (by decide +kernel)
set_option maxRecDepth 20000 in
theorem wsL_law_m25 : ∀ w ∈ wsL_law0_r25, w ∈ lw_tbl := mem_r _ [734, 735, 736, 742, 743, 737, 739, 7, 740, 741, 748, 749, 750, 751, 752, 753, 755, 8, 756, 779, 780, 781, 782, 783] (by decide +kernel)
set_option maxRecDepth 20000 in
theorem wsL_law_m26 : ∀ w ∈ wsL_law0_r26, w ∈ lw_tbl := mem_r _ [784, 786, 9, 787, 185, 788, 789, 790, 791, 792, 793, 874, 875, 876, 877, 878, 879, 880, 881, 882, 883, 884, 885, 886] (by decide +kernel)
set_option maxRecDepth 20000 in
theorem wsL_law_m27 : ∀ w ∈ wsL_law0_r27, w ∈ lw_tbl := mem_r _ [887, 889, 890, 891, 893, 11, 894, 895, 896, 897, 898, 899, 900, 901, 903, 904, 905, 906, 907, 908, 909, 911, 913, 12] (by decide +kernel)
set_option maxRecDepth 20000 in
theorem wsL_law_m28 : ∀ w ∈ wsL_law0_r28, w ∈ lw_tbl := mem_r _ [914, 85, 916, 915, 917, 918, 919, 920, 921, 922, 923, 924, 925, 926, 927, 928, 929, 930, 931, 932, 933, 934, 935, 936] (by decide +kernel)
set_option maxRecDepth 20000 in
theorem wsL_law_h29 : Cond.code yL_isHouse cL_isHouse 10 (some .boolean) ∈ lw_tbl := List.mem_append_right _ (List.mem_append_right _ (List.mem_append_right _ (List.mem_append_right _ (List.mem_of_getElem? (i := 207) rfl))))
set_option maxRecDepth 20000 in
theorem wsL_law_ma29 : ∀ w ∈ [Cond.code yX8_burnsFor cX8_burnsFor 3 (some .int), Cond.methodLink RL 182 yL_cell, Cond.static yL_cell, Cond.code yL_cell cL_cell 2 (some .int), Cond.constant RL 7 (1779033703), Cond.methodLink RL 186 yL_low, Cond.static yL_low, Cond.code yL_low cL_low 2 (some .int), Cond.constant RL 8 (2147483647), Cond.methodLink RL 189 yL_isHouse, Cond.static yL_isHouse], w ∈ lw_tbl := mem_r _ [937, 319, 320, 321, 322, 323, 324, 325, 326, 938, 939] (by decide +kernel)
set_option maxRecDepth 20000 in
theorem wsL_law_mb29 : ∀ w ∈ [Cond.constant RL 173 (99999), Cond.methodLink RL 192 yL_isThought, Cond.static yL_isThought, Cond.code yL_isThought cL_isThought 13 (some .boolean), Cond.methodLink RL 196 yL_isPeak, Cond.static yL_isPeak, Cond.code yL_isPeak cL_isPeak 8 (some .boolean), Cond.methodLink RL 200 yL_isNeeded, Cond.static yL_isNeeded, Cond.code yL_isNeeded cL_isNeeded 13 (some .boolean)], w ∈ lw_tbl := mem_r _ [941, 942, 943, 944, 945, 946, 947, 948, 949, 950] (by decide +kernel)
theorem wsL_law_m29 : ∀ w ∈ wsL_law0_r29, w ∈ lw_tbl := fun w h => (List.mem_append.mp (show w ∈ [Cond.code yX8_burnsFor cX8_burnsFor 3 (some .int), Cond.methodLink RL 182 yL_cell, Cond.static yL_cell, Cond.code yL_cell cL_cell 2 (some .int), Cond.constant RL 7 (1779033703), Cond.methodLink RL 186 yL_low, Cond.static yL_low, Cond.code yL_low cL_low 2 (some .int), Cond.constant RL 8 (2147483647), Cond.methodLink RL 189 yL_isHouse, Cond.static yL_isHouse] ++ (Cond.code yL_isHouse cL_isHouse 10 (some .boolean) :: [Cond.constant RL 173 (99999), Cond.methodLink RL 192 yL_isThought, Cond.static yL_isThought, Cond.code yL_isThought cL_isThought 13 (some .boolean), Cond.methodLink RL 196 yL_isPeak, Cond.static yL_isPeak, Cond.code yL_isPeak cL_isPeak 8 (some .boolean), Cond.methodLink RL 200 yL_isNeeded, Cond.static yL_isNeeded, Cond.code yL_isNeeded cL_isNeeded 13 (some .boolean)]) from h)).elim (wsL_law_ma29 w) (fun h => (List.mem_cons.mp h).elim (fun e => e ▸ wsL_law_h29) (wsL_law_mb29 w))
set_option maxRecDepth 20000 in
theorem wsL_law_u8 : ∀ w ∈ wsX80, w ∈ lw_tbl := by decide +kernel
set_option maxRecDepth 20000 in
theorem wsL_law_u7 : ∀ w ∈ wsX70, w ∈ lw_tbl := by decide +kernel
set_option maxRecDepth 20000 in
theorem wsL_law_u4 : ∀ w ∈ wsX40, w ∈ lw_tbl := by decide +kernel
set_option maxRecDepth 20000 in
theorem wsL_law_u3 : ∀ w ∈ wsX30, w ∈ lw_tbl := by decide +kernel
set_option maxRecDepth 20000 in
theorem wsL_law_u2 : ∀ w ∈ wsX20, w ∈ lw_tbl := by decide +kernel
set_option maxRecDepth 20000 in
theorem wsL_law_u6 : ∀ w ∈ wsX60, w ∈ lw_tbl := by decide +kernel
set_option maxRecDepth 20000 in
theorem wsL_law_u0 : ∀ w ∈ wsX00, w ∈ lw_tbl := by decide +kernel
set_option maxRecDepth 20000 in
theorem wsL_law_u5 : ∀ w ∈ wsX50, w ∈ lw_tbl := by decide +kernel
set_option maxRecDepth 20000 in
theorem wsL_law_u1 : ∀ w ∈ wsX10, w ∈ lw_tbl := by decide +kernel
set_option maxRecDepth 20000 in
theorem wsL_law_in0 : ∀ w ∈ wsL_law0, w ∈ lw_tbl := (fun w h => (List.mem_append.mp h).elim ((fun w h => (List.mem_append.mp h).elim ((fun w h => (List.mem_append.mp h).elim ((fun w h => (List.mem_append.mp h).elim ((fun w h => (List.mem_append.mp h).elim ((fun w h => (List.mem_append.mp h).elim ((fun w h => (List.mem_append.mp h).elim ((fun w h => (List.mem_append.mp h).elim ((fun w h => (List.mem_append.mp h).elim ((fun w h => (List.mem_append.mp h).elim ((fun w h => (List.mem_append.mp h).elim (wsL_law_m1 w) ((fun w h => (List.mem_append.mp h).elim (wsL_law_m2 w) ((fun w h => (List.mem_append.mp h).elim (wsL_law_m3 w) ((fun w h => (List.mem_append.mp h).elim (wsL_law_m4 w) ((fun w h => (List.mem_append.mp h).elim (wsL_law_m5 w) ((fun w h => (List.mem_append.mp h).elim (wsL_law_m6 w) ((fun w h => (List.mem_append.mp h).elim (wsL_law_m7 w) ((fun w h => (List.mem_append.mp h).elim (wsL_law_m8 w) ((fun w h => (List.mem_append.mp h).elim (wsL_law_m9 w) ((fun w h => (List.mem_append.mp h).elim (wsL_law_m10 w) ((fun w h => (List.mem_append.mp h).elim (wsL_law_m11 w) ((fun w h => (List.mem_append.mp h).elim (wsL_law_m12 w) ((fun w h => (List.mem_append.mp h).elim (wsL_law_m13 w) ((fun w h => (List.mem_append.mp h).elim (wsL_law_m14 w) ((fun w h => (List.mem_append.mp h).elim (wsL_law_m15 w) ((fun w h => (List.mem_append.mp h).elim (wsL_law_m16 w) ((fun w h => (List.mem_append.mp h).elim (wsL_law_m17 w) ((fun w h => (List.mem_append.mp h).elim (wsL_law_m18 w) ((fun w h => (List.mem_append.mp h).elim (wsL_law_m19 w) ((fun w h => (List.mem_append.mp h).elim (wsL_law_m20 w) ((fun w h => (List.mem_append.mp h).elim (wsL_law_m21 w) ((fun w h => (List.mem_append.mp h).elim (wsL_law_m22 w) ((fun w h => (List.mem_append.mp h).elim (wsL_law_m23 w) ((fun w h => (List.mem_append.mp h).elim (wsL_law_m24 w) ((fun w h => (List.mem_append.mp h).elim (wsL_law_m25 w) ((fun w h => (List.mem_append.mp h).elim (wsL_law_m26 w) ((fun w h => (List.mem_append.mp h).elim (wsL_law_m27 w) ((fun w h => (List.mem_append.mp h).elim (wsL_law_m28 w) (wsL_law_m29 w)) w)) w)) w)) w)) w)) w)) w)) w)) w)) w)) w)) w)) w)) w)) w)) w)) w)) w)) w)) w)) w)) w)) w)) w)) w)) w)) w)) w) (wsL_law_u8 w)) w) (wsL_law_u7 w)) w) (wsL_law_u4 w)) w) (wsL_law_u3 w)) w) (wsL_law_u2 w)) w) (wsL_law_u6 w)) w) (wsL_law_u0 w)) w) (wsL_law_u5 w)) w) (wsL_law_u1 w)) w) (fun h => absurd h List.not_mem_nil))
set_option maxRecDepth 20000 in
theorem wsL_law_x0 : ∀ w ∈ (vx_atS RX8 144 "java/lang/IllegalStateException" ["java/lang/RuntimeException", "java/lang/Exception"]).filter goodWord, w ∈ lw_tbl := by decide +kernel
set_option maxRecDepth 20000 in
theorem wsL_law_x1 : ∀ w ∈ (vx_atS RX8 34 "java/lang/IllegalArgumentException" ["java/lang/RuntimeException", "java/lang/Exception"]).filter goodWord, w ∈ lw_tbl := by decide +kernel
set_option maxRecDepth 20000 in
theorem wsL_law_x2 : ∀ w ∈ (vx_atS RX8 63 "java/lang/IndexOutOfBoundsException" ["java/lang/RuntimeException", "java/lang/Exception"]).filter goodWord, w ∈ lw_tbl := by decide +kernel
set_option maxRecDepth 20000 in
theorem wsL_law_in : ∀ w ∈ wsL_law, w ∈ lw_tbl := fun w h => (List.mem_append.mp h).elim (fun h => (List.mem_append.mp h).elim (fun h => (List.mem_append.mp h).elim (fun h => wsL_law_in0 w h) (fun h => wsL_law_x0 w h)) (fun h => wsL_law_x1 w h)) (fun h => wsL_law_x2 w h)
set_option maxRecDepth 20000 in
theorem inlX0 : ∀ w ∈ wsX00, w ∈ wsL_law := fun _ h => List.mem_append_left _ (List.mem_append_left _ (List.mem_append_left _ (List.mem_append_left _ (List.mem_append_left _ (List.mem_append_left _ (List.mem_append_right _ h))))))
set_option maxRecDepth 20000 in
theorem inX0 : ∀ w ∈ wsX00, w ∈ lw_tbl := fun w h => wsL_law_in w (inlX0 w h)
set_option maxRecDepth 20000 in
theorem inlX1 : ∀ w ∈ wsX10, w ∈ wsL_law := fun _ h => List.mem_append_left _ (List.mem_append_left _ (List.mem_append_left _ (List.mem_append_left _ (List.mem_append_right _ h))))
set_option maxRecDepth 20000 in
theorem inX1 : ∀ w ∈ wsX10, w ∈ lw_tbl := fun w h => wsL_law_in w (inlX1 w h)
set_option maxRecDepth 20000 in
theorem inlX2 : ∀ w ∈ wsX20, w ∈ wsL_law := fun _ h => List.mem_append_left _ (List.mem_append_left _ (List.mem_append_left _ (List.mem_append_left _ (List.mem_append_left _ (List.mem_append_left _ (List.mem_append_left _ (List.mem_append_left _ (List.mem_append_right _ h))))))))
set_option maxRecDepth 20000 in
theorem inX2 : ∀ w ∈ wsX20, w ∈ lw_tbl := fun w h => wsL_law_in w (inlX2 w h)
set_option maxRecDepth 20000 in
theorem inlX3 : ∀ w ∈ wsX30, w ∈ wsL_law := fun _ h => List.mem_append_left _ (List.mem_append_left _ (List.mem_append_left _ (List.mem_append_left _ (List.mem_append_left _ (List.mem_append_left _ (List.mem_append_left _ (List.mem_append_left _ (List.mem_append_left _ (List.mem_append_right _ h)))))))))
set_option maxRecDepth 20000 in
theorem inX3 : ∀ w ∈ wsX30, w ∈ lw_tbl := fun w h => wsL_law_in w (inlX3 w h)
set_option maxRecDepth 20000 in
theorem inlX4 : ∀ w ∈ wsX40, w ∈ wsL_law := fun _ h => List.mem_append_left _ (List.mem_append_left _ (List.mem_append_left _ (List.mem_append_left _ (List.mem_append_left _ (List.mem_append_left _ (List.mem_append_left _ (List.mem_append_left _ (List.mem_append_left _ (List.mem_append_left _ (List.mem_append_right _ h))))))))))
set_option maxRecDepth 20000 in
theorem inX4 : ∀ w ∈ wsX40, w ∈ lw_tbl := fun w h => wsL_law_in w (inlX4 w h)
set_option maxRecDepth 20000 in
theorem inlX5 : ∀ w ∈ wsX50, w ∈ wsL_law := fun _ h => List.mem_append_left _ (List.mem_append_left _ (List.mem_append_left _ (List.mem_append_left _ (List.mem_append_left _ (List.mem_append_right _ h)))))
set_option maxRecDepth 20000 in
theorem inX5 : ∀ w ∈ wsX50, w ∈ lw_tbl := fun w h => wsL_law_in w (inlX5 w h)
set_option maxRecDepth 20000 in
theorem inlX6 : ∀ w ∈ wsX60, w ∈ wsL_law := fun _ h => List.mem_append_left _ (List.mem_append_left _ (List.mem_append_left _ (List.mem_append_left _ (List.mem_append_left _ (List.mem_append_left _ (List.mem_append_left _ (List.mem_append_right _ h)))))))
set_option maxRecDepth 20000 in
theorem inX6 : ∀ w ∈ wsX60, w ∈ lw_tbl := fun w h => wsL_law_in w (inlX6 w h)
set_option maxRecDepth 20000 in
theorem inlX7 : ∀ w ∈ wsX70, w ∈ wsL_law := fun _ h => List.mem_append_left _ (List.mem_append_left _ (List.mem_append_left _ (List.mem_append_left _ (List.mem_append_left _ (List.mem_append_left _ (List.mem_append_left _ (List.mem_append_left _ (List.mem_append_left _ (List.mem_append_left _ (List.mem_append_left _ (List.mem_append_right _ h)))))))))))
set_option maxRecDepth 20000 in
theorem inX7 : ∀ w ∈ wsX70, w ∈ lw_tbl := fun w h => wsL_law_in w (inlX7 w h)
set_option maxRecDepth 20000 in
theorem inlX8 : ∀ w ∈ wsX80, w ∈ wsL_law := fun _ h => List.mem_append_left _ (List.mem_append_left _ (List.mem_append_left _ (List.mem_append_left _ (List.mem_append_left _ (List.mem_append_left _ (List.mem_append_left _ (List.mem_append_left _ (List.mem_append_left _ (List.mem_append_left _ (List.mem_append_left _ (List.mem_append_left _ (List.mem_append_right _ h))))))))))))
set_option maxRecDepth 20000 in
theorem inX8 : ∀ w ∈ wsX80, w ∈ lw_tbl := fun w h => wsL_law_in w (inlX8 w h)
set_option maxRecDepth 20000 in
theorem inX9 : ∀ w ∈ wsX90, w ∈ lw_tbl := by decide +kernel
set_option maxRecDepth 20000 in
theorem inJ6 : ∀ w ∈ wsJ60, w ∈ lw_tbl := by decide +kernel
set_option maxRecDepth 20000 in
theorem inJ9 : ∀ w ∈ wsJ90, w ∈ lw_tbl := by decide +kernel
set_option maxRecDepth 20000 in
theorem inJ0 : ∀ w ∈ wsJ00, w ∈ lw_tbl := by decide +kernel
set_option maxRecDepth 20000 in
theorem inJ10 : ∀ w ∈ wsJ100, w ∈ lw_tbl := by decide +kernel
