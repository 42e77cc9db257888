set_option maxRecDepth 20000 in
theorem ggL_law_X9_addRule : GoodIn wsL_law wsX9_addRule := goodIn_r _ [579, 103, 216, 217, 5, 218, 384, 385, 386, 387, 219, 220, 221, 222, 223, 224, 225, 226, 227, 228, 104, 959, 960, 961, 962, 963, 964, 965] (by decide +kernel) (by decide +kernel)
set_option maxRecDepth 20000 in
theorem gL_law_X9_addRule : GoodIn wsL_law (wsV RL 153 RX9 yX9_addRule wsX9_addRule) := goodIn_app (goodIn_of _ (by decide +kernel)) ggL_law_X9_addRule
set_option maxRecDepth 20000 in
theorem ggL_law_L_removeRule : GoodIn wsL_law wsL_removeRule := goodIn_ca (goodIn_r _ [582, 236, 583, 584, 585, 2, 586, 241, 242, 16, 570, 21, 571, 587, 588, 589, 43, 590, 178, 127, 128, 129, 20, 130, 131, 132, 133, 134, 135, 136, 98, 137, 138, 139, 15, 140, 141, 28, 32, 36, 40, 44, 48, 50, 142, 143, 144, 27, 145, 54, 146, 55, 147, 148, 149, 150, 151, 152, 153, 154, 155, 156, 157, 158, 159, 31, 160, 161, 162, 163, 60, 61, 164, 165, 166, 167, 35, 168, 169, 65, 66, 67, 68, 69, 70, 71, 170, 171, 172, 39, 173, 75, 76, 77, 78, 174, 175, 176, 177, 82, 83, 84, 85, 179, 180, 181, 47, 182, 183, 89, 90, 91, 92, 591, 592, 593, 594, 956, 957, 958, 966, 967, 968, 969, 970, 971, 972, 973, 999, 1000, 1001, 1002, 1003, 974, 975, 976, 977, 978, 979, 980, 981, 982, 983, 984, 985, 986, 987, 988, 989, 990, 991, 992, 993, 994, 995, 996, 997, 998, 1004, 1005, 1006, 1007, 1008] (by decide +kernel) (by decide +kernel)) (goodIn_sub (fun _ h => List.mem_append_left _ (List.mem_append_right _ h)) (by decide +kernel))
set_option maxRecDepth 20000 in
theorem gL_law_L_removeRule : GoodIn wsL_law (va_wsS RL 154 yL_removeRule wsL_removeRule) := goodIn_app (goodIn_of _ (by decide +kernel)) ggL_law_L_removeRule
set_option maxRecDepth 20000 in
theorem ggL_law_X9_removeRule : GoodIn wsL_law wsX9_removeRule := goodIn_r _ [598, 103, 216, 217, 5, 218, 219, 220, 221, 222, 223, 224, 225, 226, 227, 228, 104, 959, 960, 961, 962, 963, 964, 965] (by decide +kernel) (by decide +kernel)
set_option maxRecDepth 20000 in
theorem gL_law_X9_removeRule : GoodIn wsL_law (wsV RL 156 RX9 yX9_removeRule wsX9_removeRule) := goodIn_app (goodIn_of _ (by decide +kernel)) ggL_law_X9_removeRule
set_option maxRecDepth 20000 in
theorem ggL_law_X8_applying : GoodIn wsL_law wsX8_applying := goodIn_r _ [602, 16, 603, 604, 605, 15, 606, 44, 345, 607, 608, 609, 610, 611, 612, 613, 28, 32, 40, 546, 547, 548, 27, 549, 54, 55, 351, 352, 353, 31, 354, 162, 60, 163, 614, 376, 377, 378, 425, 426, 427, 39, 428, 77, 78, 347, 348, 349, 350, 161, 956, 957, 958, 966, 967, 968, 969, 970, 971, 972, 973, 999, 1000, 1001, 1002, 1003, 977, 978, 979, 980, 981, 982, 983, 984, 985, 986, 995, 996, 997, 998] (by decide +kernel) (by decide +kernel)
set_option maxRecDepth 20000 in
theorem gL_law_X8_applying : GoodIn wsL_law (wsV RL 157 RX8 yX8_applying wsX8_applying) := goodIn_app (goodIn_of _ (by decide +kernel)) ggL_law_X8_applying
set_option maxRecDepth 20000 in
theorem ggL_law_X9_applying : GoodIn wsL_law wsX9_applying := goodIn_r _ [618, 223, 619, 620, 621, 5, 622, 103, 623, 624, 625, 626, 407, 408, 409, 410, 460, 461, 462, 463, 403, 404, 405, 406, 959, 960, 961, 962, 963, 964, 965] (by decide +kernel) (by decide +kernel)
set_option maxRecDepth 20000 in
theorem gL_law_X9_applying : GoodIn wsL_law (wsV RL 160 RX9 yX9_applying wsX9_applying) := goodIn_app (goodIn_of _ (by decide +kernel)) ggL_law_X9_applying
set_option maxRecDepth 20000 in
theorem ggL_law_L_addEvent : GoodIn wsL_law wsL_addEvent := goodIn_ca (goodIn_ca (goodIn_r _ [629, 115, 487, 630, 631, 632, 2, 633, 120, 121, 492, 493, 16, 634, 635, 636, 21, 124, 125, 126, 637, 638, 639, 15, 640, 28, 36, 614, 376, 377, 27, 378, 54, 641, 244, 245, 246, 642, 513, 514, 35, 515, 169, 127, 128, 129, 20, 130, 131, 132, 133, 134, 135, 136, 98, 137, 138, 139, 140, 141, 32, 40, 44, 48, 50, 142, 143, 144, 145, 146, 55, 147, 148, 149, 150, 151, 152, 153, 154, 155, 156, 157, 158, 159, 31, 160, 161, 162, 163, 60, 61, 164, 165, 166, 167, 168, 65, 66, 67, 68, 69, 70, 71, 170, 171, 172, 39, 173, 75, 76, 77, 78, 174, 175, 176, 43, 177, 178, 82, 83, 84, 85, 179, 180, 181, 47, 182, 183, 89, 90, 91, 92, 643, 644, 645, 646, 647, 648, 649, 650, 956, 957, 958, 966, 967, 968, 969, 970, 971, 972, 973, 1004, 1005, 1006, 1007, 1008, 977, 978, 979, 980, 987, 988, 989, 990, 991, 992, 993, 994, 974, 975, 976, 981, 982, 983, 984, 985, 986, 995, 996, 997, 998, 999, 1000, 1001, 1002, 1003] (by decide +kernel) (by decide +kernel)) (goodIn_sub (fun _ h => List.mem_append_left _ (List.mem_append_left _ (List.mem_append_right _ h))) (by decide +kernel))) (goodIn_sub (fun _ h => List.mem_append_right _ h) (by decide +kernel))
set_option maxRecDepth 20000 in
theorem gL_law_L_addEvent : GoodIn wsL_law (va_wsS RL 161 yL_addEvent wsL_addEvent) := goodIn_app (goodIn_of _ (by decide +kernel)) ggL_law_L_addEvent
set_option maxRecDepth 20000 in
theorem ggL_law_X9_addEvent : GoodIn wsL_law wsX9_addEvent := goodIn_r _ [654, 103, 655, 656, 657, 5, 658, 384, 385, 386, 387, 216, 217, 218, 520, 521, 522, 523, 219, 220, 221, 222, 223, 224, 225, 226, 227, 228, 104, 959, 960, 961, 962, 963, 964, 965] (by decide +kernel) (by decide +kernel)
set_option maxRecDepth 20000 in
theorem gL_law_X9_addEvent : GoodIn wsL_law (wsV RL 163 RX9 yX9_addEvent wsX9_addEvent) := goodIn_app (goodIn_of _ (by decide +kernel)) ggL_law_X9_addEvent
