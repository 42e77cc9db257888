set_option maxRecDepth 20000 in
theorem gkL_isThought_r1 : GoodIn wsL_law wsL_isThought_r1 := goodIn_r _ [232, 233, 97, 234, 164, 165, 166, 167, 168, 169, 170, 2, 171, 172, 173, 12, 174, 175, 176, 177, 178, 179, 11, 180] (by decide +kernel) (by decide +kernel)
set_option maxRecDepth 20000 in
theorem gkL_isThought_r2 : GoodIn wsL_law wsL_isThought_r2 := goodIn_r _ [28, 181, 36, 182, 183, 184, 185, 186, 24, 187, 121, 188, 189, 32, 190, 40, 191, 44, 192, 193, 194, 195, 27, 196] (by decide +kernel) (by decide +kernel)
set_option maxRecDepth 20000 in
theorem gkL_isThought_r3 : GoodIn wsL_law wsL_isThought_r3 := goodIn_r _ [141, 197, 198, 199, 200, 142, 56, 143, 235, 236, 237, 238, 239, 240, 241, 242, 243, 17, 244, 245, 246, 16, 247, 111] (by decide +kernel) (by decide +kernel)
set_option maxRecDepth 20000 in
theorem gkL_isThought_r4 : GoodIn wsL_law wsL_isThought_r4 := goodIn_r _ [116, 112, 113, 114, 115, 94, 117, 118, 119, 120, 46, 122, 123, 124, 23, 125, 50, 126, 51, 127, 128, 129, 130, 131] (by decide +kernel) (by decide +kernel)
set_option maxRecDepth 20000 in
theorem gkL_isThought_r5 : GoodIn wsL_law wsL_isThought_r5 := goodIn_r _ [132, 133, 134, 135, 136, 137, 138, 139, 140, 57, 144, 145, 146, 147, 31, 148, 149, 61, 62, 63, 64, 65, 66, 67] (by decide +kernel) (by decide +kernel)
set_option maxRecDepth 20000 in
theorem gkL_isThought_r6 : GoodIn wsL_law wsL_isThought_r6 := goodIn_r _ [150, 151, 152, 35, 153, 71, 72, 73, 74, 154, 155, 156, 39, 157, 158, 78, 79, 80, 81, 159, 160, 161, 43, 162] (by decide +kernel) (by decide +kernel)
set_option maxRecDepth 20000 in
theorem gkL_isThought_r7 : GoodIn wsL_law wsL_isThought_r7 := goodIn_r _ [163, 85, 86, 87, 88, 95, 96, 98, 99, 100, 101, 102, 103, 104, 105, 106, 107, 108, 109, 110, 248, 249, 250, 251] (by decide +kernel) (by decide +kernel)
set_option maxRecDepth 20000 in
theorem gkL_isThought_r8 : GoodIn wsL_law wsL_isThought_r8 := goodIn_r _ [252, 253, 254, 255, 256, 257, 258, 259, 260, 261, 262, 263, 264, 265, 266, 267, 268, 269, 270, 271, 272, 273, 274, 224] (by decide +kernel) (by decide +kernel)
set_option maxRecDepth 20000 in
theorem gkL_isThought_r9 : GoodIn wsL_law wsL_isThought_r9 := goodIn_r _ [225, 226, 227, 275, 276, 277, 278, 279, 280, 281, 282, 283, 284, 285, 286, 287, 288, 289, 290, 291, 292, 293, 294, 295] (by decide +kernel) (by decide +kernel)
set_option maxRecDepth 20000 in
theorem gkL_isThought_r10 : GoodIn wsL_law wsL_isThought_r10 := goodIn_r _ [296, 297, 298, 299, 300, 301, 302, 303, 304, 305, 306, 307, 308, 309, 310, 311, 312, 313, 314, 315, 316, 317, 318, 319] (by decide +kernel) (by decide +kernel)
set_option maxRecDepth 20000 in
theorem gkL_isThought_r11 : GoodIn wsL_law wsL_isThought_r11 := goodIn_r _ [216, 217, 218, 219, 320, 205, 206, 207, 208, 209, 210, 211, 212, 213, 214, 215, 220, 221, 222, 223, 321, 322, 323, 324] (by decide +kernel) (by decide +kernel)
set_option maxRecDepth 20000 in
theorem gkL_isThought_r12 : GoodIn wsL_law wsL_isThought_r12 := goodIn_r _ [618, 619, 620, 363, 621, 622, 623, 624, 368, 369, 526, 13, 420, 625, 626, 627, 628, 629, 630, 535, 536, 537, 538, 539] (by decide +kernel) (by decide +kernel)
set_option maxRecDepth 20000 in
theorem gkL_isThought_r13 : GoodIn wsL_law wsL_isThought_r13 := goodIn_r _ [540, 541, 542, 543, 544, 545, 546, 547, 548, 549, 550, 551, 552, 553, 554, 555, 556, 557, 558, 394, 395, 396, 397, 499] (by decide +kernel) (by decide +kernel)
set_option maxRecDepth 20000 in
theorem gkL_isThought_r14 : GoodIn wsL_law wsL_isThought_r14 := goodIn_r _ [448, 449, 450, 559, 560, 561, 562, 504, 505, 506, 507, 563, 564, 565, 566, 567, 568, 569, 570, 571, 572, 573, 574, 575] (by decide +kernel) (by decide +kernel)
set_option maxRecDepth 20000 in
theorem gkL_isThought_r15 : GoodIn wsL_law wsL_isThought_r15 := goodIn_r _ [576, 577, 578, 52, 579, 580, 581, 582, 583, 584, 585, 586, 587, 588, 589, 590, 591, 592, 593, 594, 595, 596, 597, 598] (by decide +kernel) (by decide +kernel)
set_option maxRecDepth 20000 in
theorem gkL_isThought_r16 : GoodIn wsL_law wsL_isThought_r16 := goodIn_r _ [599, 600, 601, 602, 603, 604, 605, 606, 479, 480, 481, 607, 608, 609, 610, 631, 632, 633, 634, 635, 636, 637, 419, 666] (by decide +kernel) (by decide +kernel)
set_option maxRecDepth 20000 in
theorem gkL_isThought_r17 : GoodIn wsL_law wsL_isThought_r17 := goodIn_r _ [667, 668, 669, 670, 671, 672, 392, 611, 612, 613, 614, 615, 616, 617, 421, 422, 423, 424, 425, 426, 427, 528, 529, 530] (by decide +kernel) (by decide +kernel)
set_option maxRecDepth 20000 in
theorem gkL_isThought_r18 : GoodIn wsL_law wsL_isThought_r18 := goodIn_r _ [531, 532, 533, 534] (by decide +kernel) (by decide +kernel)
set_option maxRecDepth 20000 in
theorem gkL_isThought_X8 : GoodIn wsL_law wsX80 := goodIn_r _ [694, 695, 696] (by decide +kernel) (by decide +kernel)
set_option maxRecDepth 20000 in
theorem gkL_isThought_X7 : GoodIn wsL_law wsX70 := goodIn_r _ [697, 698, 699, 700, 701, 702, 703, 704] (by decide +kernel) (by decide +kernel)
set_option maxRecDepth 20000 in
theorem gkL_isThought_X2 : GoodIn wsL_law wsX20 := goodIn_r _ [712, 713, 714, 715, 716, 717] (by decide +kernel) (by decide +kernel)
set_option maxRecDepth 20000 in
theorem gkL_isThought_X0 : GoodIn wsL_law wsX00 := goodIn_r _ [726, 727, 728, 729] (by decide +kernel) (by decide +kernel)
set_option maxRecDepth 20000 in
theorem gkL_isThought_X3 : GoodIn wsL_law wsX30 := goodIn_r _ [708, 709, 710, 711] (by decide +kernel) (by decide +kernel)
set_option maxRecDepth 20000 in
theorem gkL_isThought_X6 : GoodIn wsL_law wsX60 := goodIn_r _ [718, 719, 720, 721, 722, 723, 724, 725] (by decide +kernel) (by decide +kernel)
set_option maxRecDepth 20000 in
theorem gkL_isThought_X5 : GoodIn wsL_law wsX50 := goodIn_r _ [730, 731, 732, 733, 734] (by decide +kernel) (by decide +kernel)
set_option maxRecDepth 20000 in
theorem gkL_isThought_X1 : GoodIn wsL_law wsX10 := goodIn_r _ [735, 736, 737, 738, 739] (by decide +kernel) (by decide +kernel)
set_option maxRecDepth 20000 in
theorem gkL_isThought_X4 : GoodIn wsL_law wsX40 := goodIn_r _ [705, 706, 707] (by decide +kernel) (by decide +kernel)
set_option maxRecDepth 20000 in
theorem ggL_law_L_isThought : GoodIn wsL_law wsL_isThought := goodIn_ca (goodIn_ca (goodIn_ca (goodIn_h (goodIn_r [Cond.code yL_isThought cL_isThought 13 (some .boolean)] [687] (by decide +kernel) (by decide +kernel) _ List.mem_cons_self).1 (by decide +kernel) (goodIn_app (goodIn_app (goodIn_app (goodIn_app (goodIn_app (goodIn_app (goodIn_app (goodIn_app (goodIn_app (goodIn_app gkL_isThought_r1 (goodIn_app gkL_isThought_r2 (goodIn_app gkL_isThought_r3 (goodIn_app gkL_isThought_r4 (goodIn_app gkL_isThought_r5 (goodIn_app gkL_isThought_r6 (goodIn_app gkL_isThought_r7 (goodIn_app gkL_isThought_r8 (goodIn_app gkL_isThought_r9 (goodIn_app gkL_isThought_r10 (goodIn_app gkL_isThought_r11 (goodIn_app gkL_isThought_r12 (goodIn_app gkL_isThought_r13 (goodIn_app gkL_isThought_r14 (goodIn_app gkL_isThought_r15 (goodIn_app gkL_isThought_r16 (goodIn_app gkL_isThought_r17 gkL_isThought_r18))))))))))))))))) gkL_isThought_X8) gkL_isThought_X7) gkL_isThought_X2) gkL_isThought_X0) gkL_isThought_X3) gkL_isThought_X6) gkL_isThought_X5) gkL_isThought_X1) gkL_isThought_X4)) (goodIn_sub (fun _ h => List.mem_append_left _ (List.mem_append_right _ h)) (by decide +kernel))) (goodIn_sub (fun _ h => List.mem_append_left _ (List.mem_append_left _ (List.mem_append_right _ h))) (by decide +kernel))) (goodIn_sub (fun _ h => List.mem_append_right _ h) (by decide +kernel))
