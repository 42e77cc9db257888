set_option maxRecDepth 20000 in
theorem ggL_isHouse_L_info : GoodIn wsL_isHouse wsL_info := goodIn_ca (goodIn_r _ [5, 6, 7, 8, 9, 10, 11, 12, 13, 14, 15, 16, 17, 18, 19, 20, 21, 22, 23, 24, 25, 26, 27, 28, 29, 30, 31, 32, 33, 34, 35, 36, 37, 38, 39, 40, 41, 42, 43, 44, 45, 46, 47, 48, 49, 50, 51, 52, 53, 54, 214, 215, 216, 217, 218, 219, 220, 221, 222, 223, 224, 225, 226, 227, 228, 229, 230, 231, 232, 233, 234, 235, 236, 237, 238, 239, 240, 241, 242, 243, 244, 245, 246, 247, 248, 249, 250, 251, 252, 253, 254, 255, 256] (by decide +kernel) (by decide +kernel)) (goodIn_sub (fun _ h => List.mem_cons_of_mem _ (List.mem_append_left _ (List.mem_append_right _ h))) (by decide +kernel))
set_option maxRecDepth 20000 in
theorem ggL_isHouse_L_sensor : GoodIn wsL_isHouse wsL_sensor := goodIn_ca (goodIn_ca (goodIn_r _ [57, 58, 6, 59, 60, 61, 10, 62, 63, 64, 12, 13, 14, 65, 66, 67, 68, 69, 70, 71, 15, 16, 17, 72, 73, 74, 21, 75, 36, 76, 77, 78, 79, 80, 81, 82, 83, 84, 85, 86, 31, 23, 30, 87, 88, 89, 90, 91, 92, 93, 48, 49, 50, 45, 51, 52, 53, 54, 42, 43, 44, 46, 47, 94, 95, 96, 97, 98, 99, 100, 214, 215, 216, 217, 218, 219, 220, 221, 222, 223, 224, 239, 240, 241, 242, 243, 244, 245, 246, 225, 226, 227, 228, 229, 230, 235, 236, 237, 238] (by decide +kernel) (by decide +kernel)) (goodIn_sub (fun _ h => List.mem_cons_of_mem _ (List.mem_append_right _ h)) (by decide +kernel))) (goodIn_sub (fun _ h => List.mem_cons_of_mem _ (List.mem_append_left _ (List.mem_append_right _ h))) (by decide +kernel))
set_option maxRecDepth 20000 in
theorem ggL_isHouse_L_room : GoodIn wsL_isHouse wsL_room := goodIn_ca (goodIn_ca (goodIn_r _ [103, 58, 6, 104, 105, 106, 10, 107, 63, 64, 12, 13, 14, 108, 109, 110, 111, 90, 112, 92, 15, 16, 17, 113, 114, 115, 21, 116, 31, 117, 25, 118, 119, 36, 120, 121, 122, 123, 124, 125, 126, 127, 128, 129, 130, 26, 131, 132, 133, 69, 134, 71, 135, 136, 95, 96, 97, 98, 99, 100, 137, 138, 139, 140, 141, 142, 143, 144, 145, 146, 147, 148, 214, 215, 216, 217, 218, 219, 220, 221, 222, 223, 224, 235, 236, 237, 238, 231, 232, 233, 234, 239, 240, 241, 242, 243, 244, 245, 246] (by decide +kernel) (by decide +kernel)) (goodIn_sub (fun _ h => List.mem_cons_of_mem _ (List.mem_append_right _ h)) (by decide +kernel))) (goodIn_sub (fun _ h => List.mem_cons_of_mem _ (List.mem_append_left _ (List.mem_append_right _ h))) (by decide +kernel))
set_option maxRecDepth 20000 in
theorem ggL_isHouse_L_isOpen : GoodIn wsL_isHouse wsL_isOpen := goodIn_ca (goodIn_r _ [151, 58, 152, 153, 154, 10, 155, 63, 64, 14, 108, 156, 157, 158, 90, 159, 92, 160, 161, 162, 163, 164, 165, 166, 167, 214, 215, 216, 217, 218, 219, 220, 221, 222, 223, 224, 235, 236, 237, 238] (by decide +kernel) (by decide +kernel)) (goodIn_sub (fun _ h => List.mem_cons_of_mem _ (List.mem_append_right _ h)) (by decide +kernel))
set_option maxRecDepth 20000 in
theorem ggL_isHouse_L_event : GoodIn wsL_isHouse wsL_event := goodIn_ca (goodIn_r _ [170, 6, 171, 172, 173, 10, 174, 12, 13, 14, 175, 15, 16, 17, 176, 177, 178, 179, 180, 181, 182, 183, 184, 185, 186, 187, 188, 189, 214, 215, 216, 217, 218, 219, 220, 221, 222, 223, 224, 252, 253, 254, 255, 256] (by decide +kernel) (by decide +kernel)) (goodIn_sub (fun _ h => List.mem_cons_of_mem _ (List.mem_append_left _ (List.mem_append_right _ h))) (by decide +kernel))
set_option maxRecDepth 20000 in
theorem ggL_isHouse_X8_applying : GoodIn wsL_isHouse wsX8_applying := goodIn_r _ [193, 14, 194, 195, 196, 21, 197, 38, 39, 198, 199, 200, 201, 202, 203, 204, 31, 23, 25, 87, 88, 89, 90, 91, 92, 93, 48, 49, 50, 45, 51, 52, 53, 54, 205, 110, 111, 112, 120, 121, 122, 123, 124, 125, 126, 42, 43, 44, 46, 47, 214, 215, 216, 217, 218, 219, 220, 221, 222, 223, 224, 247, 248, 249, 250, 251, 235, 236, 237, 238, 225, 226, 227, 228, 229, 230, 231, 232, 233, 234] (by decide +kernel) (by decide +kernel)
set_option maxRecDepth 20000 in
theorem ggL_isHouse_L_told : GoodIn wsL_isHouse wsL_told := goodIn_ca (goodIn_r _ [208, 6, 209, 210, 211, 10, 212, 12, 13, 14, 213, 15, 16, 17, 214, 215, 216, 217, 218, 219, 220, 221, 222, 223, 224] (by decide +kernel) (by decide +kernel)) (goodIn_sub (fun _ h => List.mem_cons_of_mem _ (List.mem_append_left _ (List.mem_append_right _ h))) (by decide +kernel))
set_option maxRecDepth 20000 in
theorem gL_isHouse_L_info : GoodIn wsL_isHouse (va_wsS RL 103 yL_info wsL_info) := goodIn_app (goodIn_of _ (by decide +kernel)) ggL_isHouse_L_info
set_option maxRecDepth 20000 in
theorem gL_isHouse_L_sensor : GoodIn wsL_isHouse (va_wsS RL 143 yL_sensor wsL_sensor) := goodIn_app (goodIn_of _ (by decide +kernel)) ggL_isHouse_L_sensor
set_option maxRecDepth 20000 in
theorem gL_isHouse_L_room : GoodIn wsL_isHouse (va_wsS RL 136 yL_room wsL_room) := goodIn_app (goodIn_of _ (by decide +kernel)) ggL_isHouse_L_room
set_option maxRecDepth 20000 in
theorem gL_isHouse_L_isOpen : GoodIn wsL_isHouse (va_wsS RL 126 yL_isOpen wsL_isOpen) := goodIn_app (goodIn_of _ (by decide +kernel)) ggL_isHouse_L_isOpen
set_option maxRecDepth 20000 in
theorem gL_isHouse_L_event : GoodIn wsL_isHouse (va_wsS RL 152 yL_event wsL_event) := goodIn_app (goodIn_of _ (by decide +kernel)) ggL_isHouse_L_event
set_option maxRecDepth 20000 in
theorem gL_isHouse_X8_applying : GoodIn wsL_isHouse (wsV RL 174 RX8 yX8_applying wsX8_applying) := goodIn_app (goodIn_of _ (by decide +kernel)) ggL_isHouse_X8_applying
set_option maxRecDepth 20000 in
theorem gL_isHouse_L_told : GoodIn wsL_isHouse (va_wsS RL 158 yL_told wsL_told) := goodIn_app (goodIn_of _ (by decide +kernel)) ggL_isHouse_L_told
