set_option maxRecDepth 20000 in
theorem gkL_pass_r1 : GoodIn wsL_law wsL_pass_r1 := goodIn_r _ [167, 531, 532, 533, 2, 534, 172, 173, 17, 12, 174, 175, 176, 244, 245, 246, 16, 247, 111, 116, 112, 113, 114, 115] (by decide +kernel) (by decide +kernel)
set_option maxRecDepth 20000 in
theorem gkL_pass_r2 : GoodIn wsL_law wsL_pass_r2 := goodIn_r _ [94, 117, 118, 119, 11, 120, 121, 24, 28, 32, 36, 40, 44, 46, 122, 123, 124, 23, 125, 50, 126, 51, 127, 128] (by decide +kernel) (by decide +kernel)
set_option maxRecDepth 20000 in
theorem gkL_pass_r3 : GoodIn wsL_law wsL_pass_r3 := goodIn_r _ [129, 130, 131, 132, 133, 134, 135, 136, 137, 138, 139, 27, 140, 141, 142, 143, 56, 57, 144, 145, 146, 147, 31, 148] (by decide +kernel) (by decide +kernel)
set_option maxRecDepth 20000 in
theorem gkL_pass_r4 : GoodIn wsL_law wsL_pass_r4 := goodIn_r _ [149, 61, 62, 63, 64, 65, 66, 67, 150, 151, 152, 35, 153, 71, 72, 73, 74, 154, 155, 156, 39, 157, 158, 78] (by decide +kernel) (by decide +kernel)
set_option maxRecDepth 20000 in
theorem gkL_pass_r5 : GoodIn wsL_law wsL_pass_r5 := goodIn_r _ [79, 80, 81, 159, 160, 161, 43, 162, 163, 85, 86, 87, 88, 535, 536, 537, 538, 190, 539, 540, 541, 542, 543, 544] (by decide +kernel) (by decide +kernel)
set_option maxRecDepth 20000 in
theorem gkL_pass_r6 : GoodIn wsL_law wsL_pass_r6 := goodIn_r _ [545, 546, 547, 548, 549, 550, 551, 552, 553, 181, 314, 184, 554, 555, 556, 557, 302, 303, 304, 558, 394, 395, 396, 397] (by decide +kernel) (by decide +kernel)
set_option maxRecDepth 20000 in
theorem gkL_pass_r7 : GoodIn wsL_law wsL_pass_r7 := goodIn_r _ [499, 448, 449, 450, 559, 560, 561, 562, 504, 505, 506, 507, 193, 194, 195, 196, 563, 564, 565, 566, 567, 568, 569, 570] (by decide +kernel) (by decide +kernel)
set_option maxRecDepth 20000 in
theorem gkL_pass_r8 : GoodIn wsL_law wsL_pass_r8 := goodIn_r _ [571, 572, 573, 574, 272, 197, 198, 199, 200, 575, 576, 577, 578, 52, 579, 580, 581, 582, 583, 584, 585, 299, 300, 301] (by decide +kernel) (by decide +kernel)
set_option maxRecDepth 20000 in
theorem gkL_pass_r9 : GoodIn wsL_law wsL_pass_r9 := goodIn_r _ [316, 317, 318, 319, 311, 310, 309, 186, 216, 217, 218, 219, 586, 587, 588, 589, 590, 591, 592, 593, 594, 187, 224, 225] (by decide +kernel) (by decide +kernel)
set_option maxRecDepth 20000 in
theorem gkL_pass_r10 : GoodIn wsL_law wsL_pass_r10 := goodIn_r _ [226, 227, 275, 276, 277, 278, 182, 279, 280, 281, 282, 283, 284, 285, 286, 287, 288, 289, 290, 291, 292, 293, 294, 295] (by decide +kernel) (by decide +kernel)
set_option maxRecDepth 20000 in
theorem gkL_pass_r11 : GoodIn wsL_law wsL_pass_r11 := goodIn_r _ [296, 297, 595, 596, 597, 598, 599, 600, 601, 602, 603, 604, 189, 605, 206, 207, 208, 191, 209, 210, 211, 212, 213, 214] (by decide +kernel) (by decide +kernel)
set_option maxRecDepth 20000 in
theorem gkL_pass_r12 : GoodIn wsL_law wsL_pass_r12 := goodIn_r _ [215, 220, 221, 222, 223, 606, 479, 480, 481, 607, 608, 609, 610] (by decide +kernel) (by decide +kernel)
set_option maxRecDepth 20000 in
theorem gkL_pass_X8 : GoodIn wsL_law wsX80 := goodIn_r _ [694, 695, 696] (by decide +kernel) (by decide +kernel)
set_option maxRecDepth 20000 in
theorem gkL_pass_X4 : GoodIn wsL_law wsX40 := goodIn_r _ [705, 706, 707] (by decide +kernel) (by decide +kernel)
set_option maxRecDepth 20000 in
theorem gkL_pass_X7 : GoodIn wsL_law wsX70 := goodIn_r _ [697, 698, 699, 700, 701, 702, 703, 704] (by decide +kernel) (by decide +kernel)
set_option maxRecDepth 20000 in
theorem gkL_pass_X3 : GoodIn wsL_law wsX30 := goodIn_r _ [708, 709, 710, 711] (by decide +kernel) (by decide +kernel)
set_option maxRecDepth 20000 in
theorem gkL_pass_X2 : GoodIn wsL_law wsX20 := goodIn_r _ [712, 713, 714, 715, 716, 717] (by decide +kernel) (by decide +kernel)
set_option maxRecDepth 20000 in
theorem gkL_pass_X6 : GoodIn wsL_law wsX60 := goodIn_r _ [718, 719, 720, 721, 722, 723, 724, 725] (by decide +kernel) (by decide +kernel)
set_option maxRecDepth 20000 in
theorem gkL_pass_X0 : GoodIn wsL_law wsX00 := goodIn_r _ [726, 727, 728, 729] (by decide +kernel) (by decide +kernel)
set_option maxRecDepth 20000 in
theorem gkL_pass_X5 : GoodIn wsL_law wsX50 := goodIn_r _ [730, 731, 732, 733, 734] (by decide +kernel) (by decide +kernel)
set_option maxRecDepth 20000 in
theorem gkL_pass_X1 : GoodIn wsL_law wsX10 := goodIn_r _ [735, 736, 737, 738, 739] (by decide +kernel) (by decide +kernel)
set_option maxRecDepth 20000 in
theorem ggL_law_L_pass : GoodIn wsL_law wsL_pass := goodIn_ca (goodIn_h (goodIn_r [Cond.codeWith yL_pass cL_pass 4 (some .int) [(0, 6, 9, 15)]] [530] (by decide +kernel) (by decide +kernel) _ List.mem_cons_self).1 (by decide +kernel) (goodIn_app (goodIn_app (goodIn_app (goodIn_app (goodIn_app (goodIn_app (goodIn_app (goodIn_app (goodIn_app (goodIn_app gkL_pass_r1 (goodIn_app gkL_pass_r2 (goodIn_app gkL_pass_r3 (goodIn_app gkL_pass_r4 (goodIn_app gkL_pass_r5 (goodIn_app gkL_pass_r6 (goodIn_app gkL_pass_r7 (goodIn_app gkL_pass_r8 (goodIn_app gkL_pass_r9 (goodIn_app gkL_pass_r10 (goodIn_app gkL_pass_r11 gkL_pass_r12))))))))))) gkL_pass_X8) gkL_pass_X4) gkL_pass_X7) gkL_pass_X3) gkL_pass_X2) gkL_pass_X6) gkL_pass_X0) gkL_pass_X5) gkL_pass_X1)) (goodIn_sub (fun _ h => List.mem_append_left _ (List.mem_append_right _ h)) (by decide +kernel))
