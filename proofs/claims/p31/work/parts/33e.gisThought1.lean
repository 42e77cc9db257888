set_option maxRecDepth 20000 in
theorem ggL_isThought_L_undo : GoodIn wsL_isThought wsL_undo := goodIn_ca (goodIn_r _ [152, 153, 154, 155, 156, 12, 157, 158, 159, 66, 160, 16, 161, 162, 163, 70, 164, 72, 74, 75, 76, 77, 78, 73, 79, 80, 81, 23, 82, 35, 33, 25, 38, 27, 40, 42, 83, 84, 85, 86, 87, 88, 89, 90, 91, 92, 93, 94, 95, 96, 97, 98, 99, 100, 101, 102, 103, 104, 47, 105, 49, 54, 56, 55, 106, 107, 108, 109, 110, 111, 112, 113, 114, 115, 116, 117, 118, 119, 120, 121, 122, 123, 124, 125, 126, 127, 128, 129, 130, 131, 132, 133, 134, 135, 136, 137, 138, 139, 140, 141, 142, 143, 144, 145, 146, 147, 148, 149, 413, 414, 415, 456, 457, 458, 416, 417, 418, 419, 420, 421, 422, 423, 434, 435, 436, 437, 424, 425, 426, 427, 428, 429, 438, 439, 440, 441, 442, 443, 444, 445, 430, 431, 432, 433, 446, 447, 448, 449, 450, 451, 452, 453, 454, 455] (by decide +kernel) (by decide +kernel)) (goodIn_sub (fun _ h => List.mem_cons_of_mem _ (List.mem_append_left _ (List.mem_append_right _ h))) (by decide +kernel))
set_option maxRecDepth 20000 in
theorem gL_isThought_L_print : GoodIn wsL_isThought (va_wsS RL 117 yL_print wsL_print) := goodIn_app (goodIn_of _ (by decide +kernel)) ggL_isThought_L_print
set_option maxRecDepth 20000 in
theorem gL_isThought_L_alarmIn : GoodIn wsL_isThought (va_wsS RL 160 yL_alarmIn wsL_alarmIn) := goodIn_app (goodIn_of _ (by decide +kernel)) ggL_isThought_L_alarmIn
set_option maxRecDepth 20000 in
theorem gL_isThought_L_smokeAfter : GoodIn wsL_isThought (va_wsS RL 162 yL_smokeAfter wsL_smokeAfter) := goodIn_app (goodIn_of _ (by decide +kernel)) ggL_isThought_L_smokeAfter
set_option maxRecDepth 20000 in
theorem gL_isThought_L_burnsFor : GoodIn wsL_isThought (va_wsS RL 171 yL_burnsFor wsL_burnsFor) := goodIn_app (goodIn_of _ (by decide +kernel)) ggL_isThought_L_burnsFor
set_option maxRecDepth 20000 in
theorem gL_isThought_L_told : GoodIn wsL_isThought (va_wsS RL 158 yL_told wsL_told) := goodIn_app (goodIn_of _ (by decide +kernel)) ggL_isThought_L_told
set_option maxRecDepth 20000 in
theorem gL_isThought_L_room : GoodIn wsL_isThought (va_wsS RL 136 yL_room wsL_room) := goodIn_app (goodIn_of _ (by decide +kernel)) ggL_isThought_L_room
set_option maxRecDepth 20000 in
theorem gL_isThought_L_info : GoodIn wsL_isThought (va_wsS RL 103 yL_info wsL_info) := goodIn_app (goodIn_of _ (by decide +kernel)) ggL_isThought_L_info
set_option maxRecDepth 20000 in
theorem gL_isThought_L_pass : GoodIn wsL_isThought (va_wsS RL 156 yL_pass wsL_pass) := goodIn_app (goodIn_of _ (by decide +kernel)) ggL_isThought_L_pass
set_option maxRecDepth 20000 in
theorem gL_isThought_L_undo : GoodIn wsL_isThought (va_wsS RL 110 yL_undo wsL_undo) := goodIn_app (goodIn_of _ (by decide +kernel)) ggL_isThought_L_undo
