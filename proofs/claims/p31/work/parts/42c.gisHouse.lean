set_option maxRecDepth 20000 in
theorem gkL_isHouse_r1 : GoodIn wsL_law wsL_isHouse_r1 := goodIn_r _ [684, 164, 165, 97, 166, 167, 168, 169, 170, 2, 171, 172, 173, 12, 174, 175, 176, 177, 178, 179, 11, 180, 28, 181] (by decide +kernel) (by decide +kernel)
set_option maxRecDepth 20000 in
theorem gkL_isHouse_r2 : GoodIn wsL_law wsL_isHouse_r2 := goodIn_r _ [36, 182, 183, 184, 185, 186, 24, 187, 121, 188, 189, 32, 190, 40, 191, 44, 192, 193, 194, 195, 27, 196, 141, 197] (by decide +kernel) (by decide +kernel)
set_option maxRecDepth 20000 in
theorem gkL_isHouse_r3 : GoodIn wsL_law wsL_isHouse_r3 := goodIn_r _ [198, 199, 200, 142, 56, 143, 451, 452, 453, 363, 454, 455, 456, 457, 368, 369, 253, 447, 448, 449, 31, 450, 149, 305] (by decide +kernel) (by decide +kernel)
set_option maxRecDepth 20000 in
theorem gkL_isHouse_r4 : GoodIn wsL_law wsL_isHouse_r4 := goodIn_r _ [306, 307, 308, 309, 310, 311, 312, 313, 314, 315, 316, 317, 318, 319, 216, 217, 218, 23, 219, 50, 51, 320, 284, 285] (by decide +kernel) (by decide +kernel)
set_option maxRecDepth 20000 in
theorem gkL_isHouse_r5 : GoodIn wsL_law wsL_isHouse_r5 := goodIn_r _ [286, 66, 67, 64, 421, 422, 423, 424, 425, 426, 427, 266, 420, 221, 222, 223, 268, 269, 270, 271, 272, 273, 274, 224] (by decide +kernel) (by decide +kernel)
set_option maxRecDepth 20000 in
theorem gkL_isHouse_r6 : GoodIn wsL_law wsL_isHouse_r6 := goodIn_r _ [225, 226, 35, 227, 73, 74, 275, 276, 277, 278, 279, 280, 281, 282, 61, 283, 287, 288, 289, 290, 291, 292, 293, 294] (by decide +kernel) (by decide +kernel)
set_option maxRecDepth 20000 in
theorem gkL_isHouse_r7 : GoodIn wsL_law wsL_isHouse_r7 := goodIn_r _ [295, 296, 297, 65, 378, 379, 380, 381, 382, 383, 384, 370, 371, 372, 373, 298, 299, 300, 301, 126, 302, 303, 304, 508] (by decide +kernel) (by decide +kernel)
set_option maxRecDepth 20000 in
theorem gkL_isHouse_r8 : GoodIn wsL_law wsL_isHouse_r8 := goodIn_r _ [509, 510, 511, 512, 513, 514, 255, 515, 516, 517, 43, 518, 163, 321, 322, 323, 324, 85, 86, 87, 88, 201, 202, 203] (by decide +kernel) (by decide +kernel)
set_option maxRecDepth 20000 in
theorem gkL_isHouse_r9 : GoodIn wsL_law wsL_isHouse_r9 := goodIn_r _ [204, 205, 206, 207, 208, 209, 210, 211, 212, 213, 214, 215, 220, 611, 612, 613, 614, 615, 616, 617, 257] (by decide +kernel) (by decide +kernel)
set_option maxRecDepth 20000 in
theorem gkL_isHouse_X8 : GoodIn wsL_law wsX80 := goodIn_r _ [694, 695, 696] (by decide +kernel) (by decide +kernel)
set_option maxRecDepth 20000 in
theorem gkL_isHouse_X7 : GoodIn wsL_law wsX70 := goodIn_r _ [697, 698, 699, 700, 701, 702, 703, 704] (by decide +kernel) (by decide +kernel)
set_option maxRecDepth 20000 in
theorem gkL_isHouse_X2 : GoodIn wsL_law wsX20 := goodIn_r _ [712, 713, 714, 715, 716, 717] (by decide +kernel) (by decide +kernel)
set_option maxRecDepth 20000 in
theorem gkL_isHouse_X0 : GoodIn wsL_law wsX00 := goodIn_r _ [726, 727, 728, 729] (by decide +kernel) (by decide +kernel)
set_option maxRecDepth 20000 in
theorem gkL_isHouse_X3 : GoodIn wsL_law wsX30 := goodIn_r _ [708, 709, 710, 711] (by decide +kernel) (by decide +kernel)
set_option maxRecDepth 20000 in
theorem gkL_isHouse_X6 : GoodIn wsL_law wsX60 := goodIn_r _ [718, 719, 720, 721, 722, 723, 724, 725] (by decide +kernel) (by decide +kernel)
set_option maxRecDepth 20000 in
theorem gkL_isHouse_X5 : GoodIn wsL_law wsX50 := goodIn_r _ [730, 731, 732, 733, 734] (by decide +kernel) (by decide +kernel)
set_option maxRecDepth 20000 in
theorem gkL_isHouse_X1 : GoodIn wsL_law wsX10 := goodIn_r _ [735, 736, 737, 738, 739] (by decide +kernel) (by decide +kernel)
set_option maxRecDepth 20000 in
theorem ggL_law_L_isHouse : GoodIn wsL_law wsL_isHouse := goodIn_ca (goodIn_ca (goodIn_h (List.mem_append_left _ (List.mem_append_left _ (List.mem_append_left _ (List.mem_append_left _ (List.mem_append_left _ (List.mem_append_left _ (List.mem_append_left _ (List.mem_append_left _ (List.mem_append_left _ (List.mem_append_left _ (List.mem_append_left _ (List.mem_append_left _ (List.mem_append_left _ (List.mem_append_right _ (List.mem_append_right _ (List.mem_append_right _ (List.mem_append_right _ (List.mem_append_right _ (List.mem_append_right _ (List.mem_append_right _ (List.mem_append_right _ (List.mem_append_right _ (List.mem_append_right _ (List.mem_append_right _ (List.mem_append_right _ (List.mem_append_right _ (List.mem_append_right _ (List.mem_append_right _ (List.mem_append_right _ (List.mem_append_right _ (List.mem_append_right _ (List.mem_append_right _ (List.mem_append_right _ (List.mem_append_right _ (List.mem_append_right _ (List.mem_append_right _ (List.mem_append_right _ (List.mem_append_right _ (List.mem_append_right _ (List.mem_append_right _ (List.mem_append_right _ (List.mem_of_getElem? (i := 11) rfl)))))))))))))))))))))))))))))))))))))))))) (by decide +kernel) (goodIn_app (goodIn_app (goodIn_app (goodIn_app (goodIn_app (goodIn_app (goodIn_app (goodIn_app (goodIn_app gkL_isHouse_r1 (goodIn_app gkL_isHouse_r2 (goodIn_app gkL_isHouse_r3 (goodIn_app gkL_isHouse_r4 (goodIn_app gkL_isHouse_r5 (goodIn_app gkL_isHouse_r6 (goodIn_app gkL_isHouse_r7 (goodIn_app gkL_isHouse_r8 gkL_isHouse_r9)))))))) gkL_isHouse_X8) gkL_isHouse_X7) gkL_isHouse_X2) gkL_isHouse_X0) gkL_isHouse_X3) gkL_isHouse_X6) gkL_isHouse_X5) gkL_isHouse_X1)) (goodIn_sub (fun _ h => List.mem_append_left _ (List.mem_append_right _ h)) (by decide +kernel))) (goodIn_sub (fun _ h => List.mem_append_right _ h) (by decide +kernel))
