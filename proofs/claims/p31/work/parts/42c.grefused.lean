set_option maxRecDepth 20000 in
theorem gkL_refused_r1 : GoodIn wsL_law wsL_refused_r1 := goodIn_r _ [231, 232, 233, 97, 234, 164, 165, 166, 167, 168, 169, 170, 2, 171, 172, 173, 12, 174, 175, 176, 177, 178, 179, 11] (by decide +kernel) (by decide +kernel)
set_option maxRecDepth 20000 in
theorem gkL_refused_r2 : GoodIn wsL_law wsL_refused_r2 := goodIn_r _ [180, 28, 181, 36, 182, 183, 184, 185, 186, 24, 187, 121, 188, 189, 32, 190, 40, 191, 44, 192, 193, 194, 195, 27] (by decide +kernel) (by decide +kernel)
set_option maxRecDepth 20000 in
theorem gkL_refused_r3 : GoodIn wsL_law wsL_refused_r3 := goodIn_r _ [196, 141, 197, 198, 199, 200, 142, 56, 143, 235, 236, 237, 238, 239, 240, 241, 242, 243, 17, 244, 245, 246, 16, 247] (by decide +kernel) (by decide +kernel)
set_option maxRecDepth 20000 in
theorem gkL_refused_r4 : GoodIn wsL_law wsL_refused_r4 := goodIn_r _ [111, 116, 112, 113, 114, 115, 94, 117, 118, 119, 120, 46, 122, 123, 124, 23, 125, 50, 126, 51, 127, 128, 129, 130] (by decide +kernel) (by decide +kernel)
set_option maxRecDepth 20000 in
theorem gkL_refused_r5 : GoodIn wsL_law wsL_refused_r5 := goodIn_r _ [131, 132, 133, 134, 135, 136, 137, 138, 139, 140, 57, 144, 145, 146, 147, 31, 148, 149, 61, 62, 63, 64, 65, 66] (by decide +kernel) (by decide +kernel)
set_option maxRecDepth 20000 in
theorem gkL_refused_r6 : GoodIn wsL_law wsL_refused_r6 := goodIn_r _ [67, 150, 151, 152, 35, 153, 71, 72, 73, 74, 154, 155, 156, 39, 157, 158, 78, 79, 80, 81, 159, 160, 161, 43] (by decide +kernel) (by decide +kernel)
set_option maxRecDepth 20000 in
theorem gkL_refused_r7 : GoodIn wsL_law wsL_refused_r7 := goodIn_r _ [162, 163, 85, 86, 87, 88, 95, 96, 98, 99, 100, 101, 102, 103, 104, 105, 106, 107, 108, 109, 110, 248, 249, 250] (by decide +kernel) (by decide +kernel)
set_option maxRecDepth 20000 in
theorem gkL_refused_r8 : GoodIn wsL_law wsL_refused_r8 := goodIn_r _ [251, 252, 253, 254, 255, 256, 257, 258, 259, 260, 261, 262, 263, 264, 265, 266, 267, 268, 269, 270, 271, 272, 273, 274] (by decide +kernel) (by decide +kernel)
set_option maxRecDepth 20000 in
theorem gkL_refused_r9 : GoodIn wsL_law wsL_refused_r9 := goodIn_r _ [224, 225, 226, 227, 275, 276, 277, 278, 279, 280, 281, 282, 283, 284, 285, 286, 287, 288, 289, 290, 291, 292, 293, 294] (by decide +kernel) (by decide +kernel)
set_option maxRecDepth 20000 in
theorem gkL_refused_r10 : GoodIn wsL_law wsL_refused_r10 := goodIn_r _ [295, 296, 297, 298, 299, 300, 301, 302, 303, 304, 305, 306, 307, 308, 309, 310, 311, 312, 313, 314, 315, 316, 317, 318] (by decide +kernel) (by decide +kernel)
set_option maxRecDepth 20000 in
theorem gkL_refused_r11 : GoodIn wsL_law wsL_refused_r11 := goodIn_r _ [319, 216, 217, 218, 219, 320, 205, 206, 207, 208, 209, 210, 211, 212, 213, 214, 215, 220, 221, 222, 223, 321, 322, 323] (by decide +kernel) (by decide +kernel)
set_option maxRecDepth 20000 in
theorem gkL_refused_r12 : GoodIn wsL_law wsL_refused_r12 := goodIn_r _ [324, 325, 326, 327, 328, 329, 330, 331, 332, 333, 334, 335, 336, 337, 338, 339, 340, 341, 342, 343, 344, 345, 346, 347] (by decide +kernel) (by decide +kernel)
set_option maxRecDepth 20000 in
theorem gkL_refused_r13 : GoodIn wsL_law wsL_refused_r13 := goodIn_r _ [348, 349, 350, 351, 352, 353, 354, 355, 356, 357, 358, 359, 360, 361, 362, 363, 364, 365, 366, 367, 368, 369, 370, 371] (by decide +kernel) (by decide +kernel)
set_option maxRecDepth 20000 in
theorem gkL_refused_r14 : GoodIn wsL_law wsL_refused_r14 := goodIn_r _ [372, 373, 374, 375, 376, 377, 378, 379, 380, 381, 382, 383, 384, 385, 386, 387, 388, 389, 390, 391, 392, 393, 394, 395] (by decide +kernel) (by decide +kernel)
set_option maxRecDepth 20000 in
theorem gkL_refused_r15 : GoodIn wsL_law wsL_refused_r15 := goodIn_r _ [396, 397, 398, 399, 400, 401, 402, 403, 404, 405, 406, 407, 408, 409, 410, 411, 412, 413, 414, 415, 416, 417, 418, 419] (by decide +kernel) (by decide +kernel)
set_option maxRecDepth 20000 in
theorem gkL_refused_r16 : GoodIn wsL_law wsL_refused_r16 := goodIn_r _ [420, 421, 422, 423, 424, 425, 426, 427, 428, 429, 430, 431, 432, 433, 434, 435, 436, 437, 438, 439, 440, 441, 442, 443] (by decide +kernel) (by decide +kernel)
set_option maxRecDepth 20000 in
theorem gkL_refused_r17 : GoodIn wsL_law wsL_refused_r17 := goodIn_r _ [444, 445, 446, 447, 448, 449, 450, 451, 452, 453, 454, 455, 456, 457, 458, 459, 460, 461, 462, 463, 464, 465, 466, 467] (by decide +kernel) (by decide +kernel)
set_option maxRecDepth 20000 in
theorem gkL_refused_r18 : GoodIn wsL_law wsL_refused_r18 := goodIn_r _ [468, 469, 470, 471, 472, 473, 474, 475, 476, 477, 478, 479, 480, 481, 482, 483, 484, 485, 486, 487, 488, 489, 490, 491] (by decide +kernel) (by decide +kernel)
set_option maxRecDepth 20000 in
theorem gkL_refused_r19 : GoodIn wsL_law wsL_refused_r19 := goodIn_r _ [492, 493, 494, 495, 496, 497, 498, 499, 500, 501, 502, 503, 504, 505, 506, 507, 508, 509, 510, 511, 512, 513, 514, 515] (by decide +kernel) (by decide +kernel)
set_option maxRecDepth 20000 in
theorem gkL_refused_r20 : GoodIn wsL_law wsL_refused_r20 := goodIn_r _ [516, 517, 518, 519, 520, 521, 522, 523, 524, 525, 526, 527, 528, 529, 530, 531, 532, 533, 534, 535, 536, 537, 538, 539] (by decide +kernel) (by decide +kernel)
set_option maxRecDepth 20000 in
theorem gkL_refused_r21 : GoodIn wsL_law wsL_refused_r21 := goodIn_r _ [540, 541, 542, 543, 544, 545, 546, 547, 548, 549, 550, 551, 552, 553, 554, 555, 556, 557, 558, 559, 560, 561, 562, 563] (by decide +kernel) (by decide +kernel)
set_option maxRecDepth 20000 in
theorem gkL_refused_r22 : GoodIn wsL_law wsL_refused_r22 := goodIn_r _ [564, 565, 566, 567, 568, 569, 570, 571, 572, 573, 574, 575, 576, 577, 578, 52, 579, 580, 581, 582, 583, 584, 585, 586] (by decide +kernel) (by decide +kernel)
set_option maxRecDepth 20000 in
theorem gkL_refused_r23 : GoodIn wsL_law wsL_refused_r23 := goodIn_r _ [587, 588, 589, 590, 591, 592, 593, 594, 595, 596, 597, 598, 599, 600, 601, 602, 603, 604, 605, 606, 607, 608, 609, 610] (by decide +kernel) (by decide +kernel)
set_option maxRecDepth 20000 in
theorem gkL_refused_r24 : GoodIn wsL_law wsL_refused_r24 := goodIn_r _ [611, 612, 613, 614, 615, 616, 617, 618, 619, 620, 621, 622, 623, 624, 13, 625, 626, 627, 628, 629, 630, 631, 632, 633] (by decide +kernel) (by decide +kernel)
set_option maxRecDepth 20000 in
theorem gkL_refused_r25 : GoodIn wsL_law wsL_refused_r25 := goodIn_r _ [634, 635, 636, 637, 638, 639, 640, 641, 642, 643, 644, 645, 646, 647, 648, 649, 650, 651, 652, 653, 654, 655, 656, 657] (by decide +kernel) (by decide +kernel)
set_option maxRecDepth 20000 in
theorem gkL_refused_r26 : GoodIn wsL_law wsL_refused_r26 := goodIn_r _ [658, 659, 660, 661, 662, 663, 664, 665, 666, 667, 668, 669, 670, 671, 672] (by decide +kernel) (by decide +kernel)
set_option maxRecDepth 20000 in
theorem gkL_refused_X8 : GoodIn wsL_law wsX80 := goodIn_r _ [694, 695, 696] (by decide +kernel) (by decide +kernel)
set_option maxRecDepth 20000 in
theorem gkL_refused_X7 : GoodIn wsL_law wsX70 := goodIn_r _ [697, 698, 699, 700, 701, 702, 703, 704] (by decide +kernel) (by decide +kernel)
set_option maxRecDepth 20000 in
theorem gkL_refused_X2 : GoodIn wsL_law wsX20 := goodIn_r _ [712, 713, 714, 715, 716, 717] (by decide +kernel) (by decide +kernel)
set_option maxRecDepth 20000 in
theorem gkL_refused_X0 : GoodIn wsL_law wsX00 := goodIn_r _ [726, 727, 728, 729] (by decide +kernel) (by decide +kernel)
set_option maxRecDepth 20000 in
theorem gkL_refused_X3 : GoodIn wsL_law wsX30 := goodIn_r _ [708, 709, 710, 711] (by decide +kernel) (by decide +kernel)
set_option maxRecDepth 20000 in
theorem gkL_refused_X6 : GoodIn wsL_law wsX60 := goodIn_r _ [718, 719, 720, 721, 722, 723, 724, 725] (by decide +kernel) (by decide +kernel)
set_option maxRecDepth 20000 in
theorem gkL_refused_X5 : GoodIn wsL_law wsX50 := goodIn_r _ [730, 731, 732, 733, 734] (by decide +kernel) (by decide +kernel)
set_option maxRecDepth 20000 in
theorem gkL_refused_X1 : GoodIn wsL_law wsX10 := goodIn_r _ [735, 736, 737, 738, 739] (by decide +kernel) (by decide +kernel)
set_option maxRecDepth 20000 in
theorem gkL_refused_X4 : GoodIn wsL_law wsX40 := goodIn_r _ [705, 706, 707] (by decide +kernel) (by decide +kernel)
set_option maxRecDepth 20000 in
theorem ggL_law_L_refused : GoodIn wsL_law wsL_refused := goodIn_ca (goodIn_ca (goodIn_ca (goodIn_h (List.mem_append_left _ (List.mem_append_left _ (List.mem_append_left _ (List.mem_append_left _ (List.mem_append_left _ (List.mem_append_left _ (List.mem_append_left _ (List.mem_append_left _ (List.mem_append_left _ (List.mem_append_left _ (List.mem_append_left _ (List.mem_append_left _ (List.mem_append_left _ (List.mem_append_right _ (List.mem_append_right _ (List.mem_append_right _ (List.mem_append_right _ (List.mem_append_right _ (List.mem_append_right _ (List.mem_append_right _ (List.mem_append_right _ (List.mem_append_right _ (List.mem_append_left _ (List.mem_of_getElem? (i := 14) rfl)))))))))))))))))))))))) (by decide +kernel) (goodIn_app (goodIn_app (goodIn_app (goodIn_app (goodIn_app (goodIn_app (goodIn_app (goodIn_app (goodIn_app (goodIn_app gkL_refused_r1 (goodIn_app gkL_refused_r2 (goodIn_app gkL_refused_r3 (goodIn_app gkL_refused_r4 (goodIn_app gkL_refused_r5 (goodIn_app gkL_refused_r6 (goodIn_app gkL_refused_r7 (goodIn_app gkL_refused_r8 (goodIn_app gkL_refused_r9 (goodIn_app gkL_refused_r10 (goodIn_app gkL_refused_r11 (goodIn_app gkL_refused_r12 (goodIn_app gkL_refused_r13 (goodIn_app gkL_refused_r14 (goodIn_app gkL_refused_r15 (goodIn_app gkL_refused_r16 (goodIn_app gkL_refused_r17 (goodIn_app gkL_refused_r18 (goodIn_app gkL_refused_r19 (goodIn_app gkL_refused_r20 (goodIn_app gkL_refused_r21 (goodIn_app gkL_refused_r22 (goodIn_app gkL_refused_r23 (goodIn_app gkL_refused_r24 (goodIn_app gkL_refused_r25 gkL_refused_r26))))))))))))))))))))))))) gkL_refused_X8) gkL_refused_X7) gkL_refused_X2) gkL_refused_X0) gkL_refused_X3) gkL_refused_X6) gkL_refused_X5) gkL_refused_X1) gkL_refused_X4)) (goodIn_sub (fun _ h => List.mem_append_left _ (List.mem_append_right _ h)) (by decide +kernel))) (goodIn_sub (fun _ h => List.mem_append_left _ (List.mem_append_left _ (List.mem_append_right _ h))) (by decide +kernel))) (goodIn_sub (fun _ h => List.mem_append_right _ h) (by decide +kernel))
