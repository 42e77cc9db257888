set_option maxRecDepth 20000 in
theorem gkL_isPeak_r1 : GoodIn wsL_law wsL_isPeak_r1 := goodIn_r _ [652, 653, 97, 654, 167, 655, 656, 657, 2, 658, 172, 173, 174, 175, 176, 645, 646, 647, 648, 13, 12, 465, 242, 649] (by decide +kernel) (by decide +kernel)
set_option maxRecDepth 20000 in
theorem gkL_isPeak_r2 : GoodIn wsL_law wsL_isPeak_r2 := goodIn_r _ [243, 266, 419, 650, 568, 131, 569, 626, 118, 119, 11, 120, 121, 24, 28, 32, 36, 40, 44, 46, 122, 123, 124, 23] (by decide +kernel) (by decide +kernel)
set_option maxRecDepth 20000 in
theorem gkL_isPeak_r3 : GoodIn wsL_law wsL_isPeak_r3 := goodIn_r _ [125, 50, 126, 51, 127, 128, 129, 130, 132, 133, 134, 135, 136, 137, 138, 139, 27, 140, 141, 142, 143, 56, 57, 144] (by decide +kernel) (by decide +kernel)
set_option maxRecDepth 20000 in
theorem gkL_isPeak_r4 : GoodIn wsL_law wsL_isPeak_r4 := goodIn_r _ [145, 146, 147, 31, 148, 149, 61, 62, 63, 64, 65, 66, 67, 150, 151, 152, 35, 153, 71, 72, 73, 74, 154, 155] (by decide +kernel) (by decide +kernel)
set_option maxRecDepth 20000 in
theorem gkL_isPeak_r5 : GoodIn wsL_law wsL_isPeak_r5 := goodIn_r _ [156, 39, 157, 158, 78, 79, 80, 81, 159, 160, 161, 43, 162, 163, 85, 86, 87, 88, 651, 353, 354, 355, 535, 536] (by decide +kernel) (by decide +kernel)
set_option maxRecDepth 20000 in
theorem gkL_isPeak_r6 : GoodIn wsL_law wsL_isPeak_r6 := goodIn_r _ [537, 538, 190, 539, 540, 541, 542, 543, 544, 545, 546, 547, 548, 549, 550, 551, 552, 553, 181, 314, 184, 554, 555, 556] (by decide +kernel) (by decide +kernel)
set_option maxRecDepth 20000 in
theorem gkL_isPeak_r7 : GoodIn wsL_law wsL_isPeak_r7 := goodIn_r _ [557, 302, 303, 304, 558, 394, 395, 396, 397, 499, 448, 449, 450, 559, 560, 561, 562, 504, 505, 506, 507, 193, 194, 195] (by decide +kernel) (by decide +kernel)
set_option maxRecDepth 20000 in
theorem gkL_isPeak_r8 : GoodIn wsL_law wsL_isPeak_r8 := goodIn_r _ [196, 563, 564, 565, 566, 567, 570, 571, 572, 573, 574, 272, 197, 198, 199, 200, 575, 576, 577, 578, 52, 579, 580, 581] (by decide +kernel) (by decide +kernel)
set_option maxRecDepth 20000 in
theorem gkL_isPeak_r9 : GoodIn wsL_law wsL_isPeak_r9 := goodIn_r _ [582, 583, 584, 585, 299, 300, 301, 316, 317, 318, 319, 311, 310, 309, 186, 216, 217, 218, 219, 586, 587, 588, 589, 590] (by decide +kernel) (by decide +kernel)
set_option maxRecDepth 20000 in
theorem gkL_isPeak_r10 : GoodIn wsL_law wsL_isPeak_r10 := goodIn_r _ [591, 592, 593, 594, 187, 224, 225, 226, 227, 275, 276, 277, 278, 182, 279, 280, 281, 282, 283, 284, 285, 286, 287, 288] (by decide +kernel) (by decide +kernel)
set_option maxRecDepth 20000 in
theorem gkL_isPeak_r11 : GoodIn wsL_law wsL_isPeak_r11 := goodIn_r _ [289, 290, 291, 292, 293, 294, 295, 296, 297, 595, 596, 597, 598, 599, 600, 601, 602, 603, 604, 189, 605, 206, 207, 208] (by decide +kernel) (by decide +kernel)
set_option maxRecDepth 20000 in
theorem gkL_isPeak_r12 : GoodIn wsL_law wsL_isPeak_r12 := goodIn_r _ [191, 209, 210, 211, 212, 213, 214, 215, 220, 221, 222, 223, 606, 479, 480, 481, 607, 608, 609, 610, 638, 639, 640, 363] (by decide +kernel) (by decide +kernel)
set_option maxRecDepth 20000 in
theorem gkL_isPeak_r13 : GoodIn wsL_law wsL_isPeak_r13 := goodIn_r _ [641, 642, 643, 644, 368, 369, 420, 164, 165, 166, 168, 169, 170, 171, 177, 178, 179, 180, 183, 185, 188, 192, 631, 632] (by decide +kernel) (by decide +kernel)
set_option maxRecDepth 20000 in
theorem gkL_isPeak_r14 : GoodIn wsL_law wsL_isPeak_r14 := goodIn_r _ [633, 634, 635, 636, 637] (by decide +kernel) (by decide +kernel)
set_option maxRecDepth 20000 in
theorem gkL_isPeak_X8 : GoodIn wsL_law wsX80 := goodIn_r _ [694, 695, 696] (by decide +kernel) (by decide +kernel)
set_option maxRecDepth 20000 in
theorem gkL_isPeak_X7 : GoodIn wsL_law wsX70 := goodIn_r _ [697, 698, 699, 700, 701, 702, 703, 704] (by decide +kernel) (by decide +kernel)
set_option maxRecDepth 20000 in
theorem gkL_isPeak_X2 : GoodIn wsL_law wsX20 := goodIn_r _ [712, 713, 714, 715, 716, 717] (by decide +kernel) (by decide +kernel)
set_option maxRecDepth 20000 in
theorem gkL_isPeak_X3 : GoodIn wsL_law wsX30 := goodIn_r _ [708, 709, 710, 711] (by decide +kernel) (by decide +kernel)
set_option maxRecDepth 20000 in
theorem gkL_isPeak_X6 : GoodIn wsL_law wsX60 := goodIn_r _ [718, 719, 720, 721, 722, 723, 724, 725] (by decide +kernel) (by decide +kernel)
set_option maxRecDepth 20000 in
theorem gkL_isPeak_X0 : GoodIn wsL_law wsX00 := goodIn_r _ [726, 727, 728, 729] (by decide +kernel) (by decide +kernel)
set_option maxRecDepth 20000 in
theorem gkL_isPeak_X5 : GoodIn wsL_law wsX50 := goodIn_r _ [730, 731, 732, 733, 734] (by decide +kernel) (by decide +kernel)
set_option maxRecDepth 20000 in
theorem gkL_isPeak_X1 : GoodIn wsL_law wsX10 := goodIn_r _ [735, 736, 737, 738, 739] (by decide +kernel) (by decide +kernel)
set_option maxRecDepth 20000 in
theorem ggL_law_L_isPeak : GoodIn wsL_law wsL_isPeak := goodIn_ca (goodIn_ca (goodIn_h (goodIn_r [Cond.code yL_isPeak cL_isPeak 8 (some .boolean)] [690] (by decide +kernel) (by decide +kernel) _ List.mem_cons_self).1 (by decide +kernel) (goodIn_app (goodIn_app (goodIn_app (goodIn_app (goodIn_app (goodIn_app (goodIn_app (goodIn_app (goodIn_app gkL_isPeak_r1 (goodIn_app gkL_isPeak_r2 (goodIn_app gkL_isPeak_r3 (goodIn_app gkL_isPeak_r4 (goodIn_app gkL_isPeak_r5 (goodIn_app gkL_isPeak_r6 (goodIn_app gkL_isPeak_r7 (goodIn_app gkL_isPeak_r8 (goodIn_app gkL_isPeak_r9 (goodIn_app gkL_isPeak_r10 (goodIn_app gkL_isPeak_r11 (goodIn_app gkL_isPeak_r12 (goodIn_app gkL_isPeak_r13 gkL_isPeak_r14))))))))))))) gkL_isPeak_X8) gkL_isPeak_X7) gkL_isPeak_X2) gkL_isPeak_X3) gkL_isPeak_X6) gkL_isPeak_X0) gkL_isPeak_X5) gkL_isPeak_X1)) (goodIn_sub (fun _ h => List.mem_append_left _ (List.mem_append_right _ h)) (by decide +kernel))) (goodIn_sub (fun _ h => List.mem_append_right _ h) (by decide +kernel))
