set_option maxRecDepth 20000 in
theorem ggL_law_X9_set : GoodIn wsL_law wsX9_set := goodIn_r _ [362, 363, 364, 5, 365, 216, 217, 218, 219, 220, 221, 222, 223, 318, 319, 320, 321, 103, 224, 225, 226, 227, 228, 104, 959, 960, 961, 962, 963, 964, 965] (by decide +kernel) (by decide +kernel)
set_option maxRecDepth 20000 in
theorem gL_law_X9_set : GoodIn wsL_law (wsV RL 130 RX9 yX9_set wsX9_set) := goodIn_app (goodIn_of _ (by decide +kernel)) ggL_law_X9_set
set_option maxRecDepth 20000 in
theorem ggL_law_L_setSmoke : GoodIn wsL_law wsL_setSmoke := goodIn_ca (goodIn_ca (goodIn_r _ [368, 236, 115, 369, 370, 371, 2, 372, 241, 242, 120, 121, 16, 122, 373, 374, 21, 375, 376, 377, 27, 378, 54, 124, 125, 126, 127, 128, 129, 20, 130, 131, 132, 133, 134, 135, 136, 98, 137, 138, 139, 15, 140, 141, 28, 32, 36, 40, 44, 48, 50, 142, 143, 144, 145, 146, 55, 147, 148, 149, 150, 151, 152, 153, 154, 155, 156, 157, 158, 159, 31, 160, 161, 162, 163, 60, 61, 164, 165, 166, 167, 35, 168, 169, 65, 66, 67, 68, 69, 70, 71, 170, 171, 172, 39, 173, 75, 76, 77, 78, 174, 175, 176, 43, 177, 178, 82, 83, 84, 85, 179, 180, 181, 47, 182, 183, 89, 90, 91, 92, 956, 957, 958, 966, 967, 968, 969, 970, 971, 972, 973, 977, 978, 979, 980, 974, 975, 976, 981, 982, 983, 984, 985, 986, 987, 988, 989, 990, 991, 992, 993, 994, 995, 996, 997, 998, 999, 1000, 1001, 1002, 1003, 1004, 1005, 1006, 1007, 1008] (by decide +kernel) (by decide +kernel)) (goodIn_sub (fun _ h => List.mem_append_left _ (List.mem_append_right _ h)) (by decide +kernel))) (goodIn_sub (fun _ h => List.mem_append_left _ (List.mem_append_left _ (List.mem_append_right _ h))) (by decide +kernel))
set_option maxRecDepth 20000 in
theorem gL_law_L_setSmoke : GoodIn wsL_law (va_wsS RL 131 yL_setSmoke wsL_setSmoke) := goodIn_app (goodIn_of _ (by decide +kernel)) ggL_law_L_setSmoke
set_option maxRecDepth 20000 in
theorem ggL_law_X9_setSmoke : GoodIn wsL_law wsX9_setSmoke := goodIn_r _ [382, 383, 384, 385, 386, 5, 387, 103, 216, 217, 218, 219, 220, 221, 222, 223, 318, 319, 320, 321, 224, 225, 226, 227, 228, 104, 959, 960, 961, 962, 963, 964, 965] (by decide +kernel) (by decide +kernel)
set_option maxRecDepth 20000 in
theorem gL_law_X9_setSmoke : GoodIn wsL_law (wsV RL 133 RX9 yX9_setSmoke wsX9_setSmoke) := goodIn_app (goodIn_of _ (by decide +kernel)) ggL_law_X9_setSmoke
set_option maxRecDepth 20000 in
theorem ggL_law_L_info : GoodIn wsL_law wsL_info := goodIn_ca (goodIn_r _ [390, 115, 391, 392, 393, 2, 394, 120, 121, 16, 124, 125, 126, 331, 332, 333, 15, 334, 32, 335, 40, 336, 337, 338, 339, 340, 28, 341, 141, 342, 343, 36, 344, 44, 345, 48, 346, 347, 348, 349, 31, 350, 161, 351, 352, 353, 354, 162, 60, 163, 956, 957, 958, 966, 967, 968, 969, 970, 971, 972, 973, 981, 982, 983, 984, 985, 986, 995, 996, 997, 998, 977, 978, 979, 980, 987, 988, 989, 990, 991, 992, 993, 994, 999, 1000, 1001, 1002, 1003, 1004, 1005, 1006, 1007, 1008] (by decide +kernel) (by decide +kernel)) (goodIn_sub (fun _ h => List.mem_append_left _ (List.mem_append_left _ (List.mem_append_right _ h))) (by decide +kernel))
set_option maxRecDepth 20000 in
theorem gL_law_L_info : GoodIn wsL_law (va_wsS RL 134 yL_info wsL_info) := goodIn_app (goodIn_of _ (by decide +kernel)) ggL_law_L_info
set_option maxRecDepth 20000 in
theorem ggL_law_X9_info : GoodIn wsL_law wsX9_info := goodIn_r _ [398, 216, 217, 5, 218, 219, 220, 221, 222, 223, 399, 400, 401, 402, 103, 403, 404, 405, 406, 407, 408, 409, 410, 959, 960, 961, 962, 963, 964, 965] (by decide +kernel) (by decide +kernel)
set_option maxRecDepth 20000 in
theorem gL_law_X9_info : GoodIn wsL_law (wsV RL 136 RX9 yX9_info wsX9_info) := goodIn_app (goodIn_of _ (by decide +kernel)) ggL_law_X9_info
set_option maxRecDepth 20000 in
theorem ggL_law_L_room : GoodIn wsL_law wsL_room := goodIn_ca (goodIn_ca (goodIn_r _ [413, 236, 115, 414, 415, 416, 2, 417, 241, 242, 120, 121, 16, 122, 375, 376, 377, 27, 378, 54, 124, 125, 126, 418, 419, 420, 15, 421, 28, 422, 40, 423, 424, 36, 425, 426, 427, 39, 428, 77, 78, 429, 430, 431, 432, 336, 433, 434, 435, 35, 436, 169, 65, 437, 438, 439, 440, 70, 71, 68, 441, 442, 443, 444, 445, 446, 447, 448, 449, 450, 451, 69, 956, 957, 958, 966, 967, 968, 969, 970, 971, 972, 973, 977, 978, 979, 980, 995, 996, 997, 998, 987, 988, 989, 990, 991, 992, 993, 994] (by decide +kernel) (by decide +kernel)) (goodIn_sub (fun _ h => List.mem_append_left _ (List.mem_append_right _ h)) (by decide +kernel))) (goodIn_sub (fun _ h => List.mem_append_left _ (List.mem_append_left _ (List.mem_append_right _ h))) (by decide +kernel))
set_option maxRecDepth 20000 in
theorem gL_law_L_room : GoodIn wsL_law (va_wsS RL 137 yL_room wsL_room) := goodIn_app (goodIn_of _ (by decide +kernel)) ggL_law_L_room
set_option maxRecDepth 20000 in
theorem ggL_law_X9_room : GoodIn wsL_law wsX9_room := goodIn_r _ [455, 384, 385, 386, 5, 387, 103, 216, 217, 218, 219, 220, 221, 222, 223, 456, 457, 458, 459, 460, 461, 462, 463, 464, 465, 466, 467, 468, 469, 470, 471, 472, 473, 474, 475, 476, 477, 478, 479, 480, 481, 482, 483, 959, 960, 961, 962, 963, 964, 965] (by decide +kernel) (by decide +kernel)
set_option maxRecDepth 20000 in
theorem gL_law_X9_room : GoodIn wsL_law (wsV RL 139 RX9 yX9_room wsX9_room) := goodIn_app (goodIn_of _ (by decide +kernel)) ggL_law_X9_room
