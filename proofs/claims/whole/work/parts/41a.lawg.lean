set_option maxRecDepth 20000 in
theorem ggL_law_X8_init : GoodIn wsL_law wsX8_init := goodIn_r _ [9, 10, 11, 12, 13, 14, 15, 16, 17, 18, 19, 20, 21, 22, 23, 24, 25, 26, 27, 28, 29, 30, 31, 32, 33, 34, 35, 36, 37, 38, 39, 40, 41, 42, 43, 44, 45, 46, 47, 48, 49, 50, 51, 52, 53, 54, 55, 56, 57, 58, 59, 60, 61, 62, 63, 64, 65, 66, 67, 68, 69, 70, 71, 72, 73, 74, 75, 76, 77, 78, 79, 80, 81, 82, 83, 84, 85, 86, 87, 88, 89, 90, 91, 92, 93, 94, 95, 96, 97, 98, 966, 967, 968, 969, 970, 971, 972, 973, 956, 957, 958, 974, 975, 976, 977, 978, 979, 980, 981, 982, 983, 984, 985, 986, 987, 988, 989, 990, 991, 992, 993, 994, 995, 996, 997, 998, 999, 1000, 1001, 1002, 1003, 1004, 1005, 1006, 1007, 1008] (by decide +kernel) (by decide +kernel)
set_option maxRecDepth 20000 in
theorem gL_law_X8_init : GoodIn wsL_law (wsX8_init) := ggL_law_X8_init
set_option maxRecDepth 20000 in
theorem ggL_law_X9_init : GoodIn wsL_law wsX9_init := goodIn_r _ [101, 102, 11, 12, 49, 103, 104, 105, 106, 107, 108, 109, 5, 110, 959, 960, 961, 962, 963, 964, 965] (by decide +kernel) (by decide +kernel)
set_option maxRecDepth 20000 in
theorem gL_law_X9_init : GoodIn wsL_law (wsX9_init) := ggL_law_X9_init
set_option maxRecDepth 20000 in
theorem ggL_law_L_begin : GoodIn wsL_law wsL_begin := goodIn_ca (goodIn_r _ [114, 115, 116, 117, 118, 2, 119, 120, 121, 16, 122, 123, 21, 124, 125, 126, 127, 128, 129, 20, 130, 131, 132, 133, 134, 135, 136, 98, 137, 138, 139, 15, 140, 141, 28, 32, 36, 40, 44, 48, 50, 142, 143, 144, 27, 145, 54, 146, 55, 147, 148, 149, 150, 151, 152, 153, 154, 155, 156, 157, 158, 159, 31, 160, 161, 162, 163, 60, 61, 164, 165, 166, 167, 35, 168, 169, 65, 66, 67, 68, 69, 70, 71, 170, 171, 172, 39, 173, 75, 76, 77, 78, 174, 175, 176, 43, 177, 178, 82, 83, 84, 85, 179, 180, 181, 47, 182, 183, 89, 90, 91, 92, 184, 185, 186, 187, 188, 189, 190, 191, 192, 193, 194, 195, 196, 197, 198, 199, 200, 201, 202, 203, 204, 205, 206, 207, 208, 209, 210, 211, 956, 957, 958, 966, 967, 968, 969, 970, 971, 972, 973, 977, 978, 979, 980, 974, 975, 976, 981, 982, 983, 984, 985, 986, 987, 988, 989, 990, 991, 992, 993, 994, 995, 996, 997, 998, 999, 1000, 1001, 1002, 1003, 1004, 1005, 1006, 1007, 1008] (by decide +kernel) (by decide +kernel)) (goodIn_sub (fun _ h => List.mem_append_left _ (List.mem_append_left _ (List.mem_append_right _ h))) (by decide +kernel))
set_option maxRecDepth 20000 in
theorem gL_law_L_begin : GoodIn wsL_law (va_wsS RL 105 yL_begin wsL_begin) := goodIn_app (goodIn_of _ (by decide +kernel)) ggL_law_L_begin
set_option maxRecDepth 20000 in
theorem ggL_law_X9_begin : GoodIn wsL_law wsX9_begin := goodIn_r _ [215, 103, 216, 217, 5, 218, 219, 220, 221, 222, 223, 224, 225, 226, 227, 228, 104, 107, 108, 109, 110, 959, 960, 961, 962, 963, 964, 965] (by decide +kernel) (by decide +kernel)
set_option maxRecDepth 20000 in
theorem gL_law_X9_begin : GoodIn wsL_law (wsV RL 110 RX9 yX9_begin wsX9_begin) := goodIn_app (goodIn_of _ (by decide +kernel)) ggL_law_X9_begin
set_option maxRecDepth 20000 in
theorem ggL_law_X9_thrown : GoodIn wsL_law wsX9_thrown := goodIn_r _ [232, 223, 959, 960, 961, 962, 963, 964, 965] (by decide +kernel) (by decide +kernel)
set_option maxRecDepth 20000 in
theorem gL_law_X9_thrown : GoodIn wsL_law (wsV RL 111 RX9 yX9_thrown wsX9_thrown) := goodIn_app (goodIn_of _ (by decide +kernel)) ggL_law_X9_thrown
set_option maxRecDepth 20000 in
theorem ggL_law_L_setDoor : GoodIn wsL_law wsL_setDoor := goodIn_ca (goodIn_ca (goodIn_r _ [235, 236, 115, 237, 238, 239, 2, 240, 241, 242, 120, 121, 16, 122, 21, 243, 244, 245, 27, 246, 54, 247, 248, 249, 250, 146, 251, 252, 253, 127, 128, 129, 20, 130, 131, 132, 133, 134, 135, 136, 98, 137, 138, 139, 15, 140, 141, 28, 32, 36, 40, 44, 48, 50, 142, 143, 144, 145, 55, 147, 148, 149, 150, 151, 152, 153, 154, 155, 156, 157, 158, 159, 31, 160, 161, 162, 163, 60, 61, 164, 165, 166, 167, 35, 168, 169, 65, 66, 67, 68, 69, 70, 71, 170, 171, 172, 39, 173, 75, 76, 77, 78, 174, 175, 176, 43, 177, 178, 82, 83, 84, 85, 179, 180, 181, 47, 182, 183, 89, 90, 91, 92, 254, 255, 256, 257, 956, 957, 958, 966, 967, 968, 969, 970, 971, 972, 973, 977, 978, 979, 980, 974, 975, 976, 981, 982, 983, 984, 985, 986, 987, 988, 989, 990, 991, 992, 993, 994, 995, 996, 997, 998, 999, 1000, 1001, 1002, 1003, 1004, 1005, 1006, 1007, 1008] (by decide +kernel) (by decide +kernel)) (goodIn_sub (fun _ h => List.mem_append_left _ (List.mem_append_right _ h)) (by decide +kernel))) (goodIn_sub (fun _ h => List.mem_append_left _ (List.mem_append_left _ (List.mem_append_right _ h))) (by decide +kernel))
set_option maxRecDepth 20000 in
theorem gL_law_L_setDoor : GoodIn wsL_law (va_wsS RL 114 yL_setDoor wsL_setDoor) := goodIn_app (goodIn_of _ (by decide +kernel)) ggL_law_L_setDoor
set_option maxRecDepth 20000 in
theorem ggL_law_X9_setDoor : GoodIn wsL_law wsX9_setDoor := goodIn_r _ [261, 262, 263, 264, 5, 265, 103, 216, 217, 218, 219, 220, 221, 222, 223, 266, 267, 268, 269, 224, 225, 226, 227, 228, 104, 270, 271, 272, 273, 959, 960, 961, 962, 963, 964, 965] (by decide +kernel) (by decide +kernel)
set_option maxRecDepth 20000 in
theorem gL_law_X9_setDoor : GoodIn wsL_law (wsV RL 117 RX9 yX9_setDoor wsX9_setDoor) := goodIn_app (goodIn_of _ (by decide +kernel)) ggL_law_X9_setDoor
