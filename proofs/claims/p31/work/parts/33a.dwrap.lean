theorem dL_cell_0 : decode cL_cell 0 = .ok (.iload_n 1, 1) := by decide +kernel
theorem dL_cell_1 : decode cL_cell 1 = .ok (.aload_n 0, 1) := by decide +kernel
theorem dL_cell_2 : decode cL_cell 2 = .ok (.arraylength, 1) := by decide +kernel
theorem dL_cell_3 : decode cL_cell 3 = .ok (.if_icmp .ge 9, 3) := by decide +kernel
theorem dL_cell_6 : decode cL_cell 6 = .ok (.aload_n 0, 1) := by decide +kernel
theorem dL_cell_7 : decode cL_cell 7 = .ok (.iload_n 1, 1) := by decide +kernel
theorem dL_cell_8 : decode cL_cell 8 = .ok (.iaload, 1) := by decide +kernel
theorem dL_cell_9 : decode cL_cell 9 = .ok (.goto 9, 3) := by decide +kernel
theorem dL_cell_12 : decode cL_cell 12 = .ok (.ldc 7, 2) := by decide +kernel
theorem dL_cell_14 : decode cL_cell 14 = .ok (.iload_n 1, 1) := by decide +kernel
theorem dL_cell_15 : decode cL_cell 15 = .ok (.iconst 1, 1) := by decide +kernel
theorem dL_cell_16 : decode cL_cell 16 = .ok (.iadd, 1) := by decide +kernel
theorem dL_cell_17 : decode cL_cell 17 = .ok (.imul, 1) := by decide +kernel
theorem dL_cell_18 : decode cL_cell 18 = .ok (.ireturn, 1) := by decide +kernel
theorem dL_low_0 : decode cL_low 0 = .ok (.iload_n 0, 1) := by decide +kernel
theorem dL_low_1 : decode cL_low 1 = .ok (.ldc 8, 2) := by decide +kernel
theorem dL_low_3 : decode cL_low 3 = .ok (.iand, 1) := by decide +kernel
theorem dL_low_4 : decode cL_low 4 = .ok (.iload_n 1, 1) := by decide +kernel
theorem dL_low_5 : decode cL_low 5 = .ok (.irem, 1) := by decide +kernel
theorem dL_low_6 : decode cL_low 6 = .ok (.ireturn, 1) := by decide +kernel
set_option maxRecDepth 20000 in
theorem ggL_begin_X8_begin : GoodIn wsL_begin wsX8_begin := goodIn_ca (goodIn_r _ [6, 7, 8, 9, 10, 11, 12, 13, 14, 5, 15, 16, 17, 18, 19, 20, 21, 22, 23, 24, 25, 26, 27, 28, 29, 30, 31, 32, 33, 34, 35, 36, 37, 38, 39, 40, 41, 42, 43, 44, 45, 46, 47, 48, 49, 50, 51, 52, 53, 54, 55, 56, 57, 58, 59, 60, 61, 62, 63, 64, 65, 66, 67, 68, 69, 70, 71, 72, 73, 74, 75, 76, 77, 78, 79, 80, 81, 82, 83, 84, 85, 86, 87, 88, 89, 90, 91, 92, 93, 94, 95, 96, 97, 98, 99, 100, 101, 102, 103, 104, 105, 106, 107, 108, 109, 110, 111, 112, 113, 114, 115, 116, 117, 118, 119, 120, 121, 122, 123, 124, 125, 126, 127, 128, 129, 130, 131, 132, 133, 134, 135, 136, 137, 138, 139, 140, 141, 142, 143, 144, 145, 146, 147, 148, 149, 150, 151, 152, 153, 154, 155, 156, 157, 158, 159, 160, 161, 162, 163, 164, 165, 166, 167, 168, 169, 170, 171, 172, 173, 174, 175, 176, 177, 178, 179, 180, 181, 182, 183, 184, 185] (by decide +kernel) (by decide +kernel)) (goodIn_sub (fun _ h => List.mem_cons_of_mem _ (List.mem_append_right _ h)) (by decide +kernel))
set_option maxRecDepth 20000 in
theorem gL_begin_X8_begin : GoodIn wsL_begin (wsV RL 9 RX8 yX8_begin wsX8_begin) := goodIn_app (goodIn_of _ (by decide +kernel)) ggL_begin_X8_begin
theorem dL_begin_0 : decode cL_begin 0 = .ok (.aload_n 0, 1) := by decide +kernel
theorem dL_begin_1 : decode cL_begin 1 = .ok (.iload_n 1, 1) := by decide +kernel
theorem dL_begin_2 : decode cL_begin 2 = .ok (.invokevirtual 9, 3) := by decide +kernel
theorem dL_begin_5 : decode cL_begin 5 = .ok (.istore_n 2, 1) := by decide +kernel
theorem dL_begin_6 : decode cL_begin 6 = .ok (.goto 8, 3) := by decide +kernel
theorem dL_begin_9 : decode cL_begin 9 = .ok (.astore_n 3, 1) := by decide +kernel
theorem dL_begin_10 : decode cL_begin 10 = .ok (.sipush (-2051), 3) := by decide +kernel
theorem dL_begin_13 : decode cL_begin 13 = .ok (.ireturn, 1) := by decide +kernel
theorem dL_begin_14 : decode cL_begin 14 = .ok (.iload_n 2, 1) := by decide +kernel
theorem dL_begin_15 : decode cL_begin 15 = .ok (.ireturn, 1) := by decide +kernel
set_option maxRecDepth 20000 in
theorem ggL_setDoor_X8_setDoor : GoodIn wsL_setDoor wsX8_setDoor := goodIn_ca (goodIn_ca (goodIn_r _ [7, 8, 9, 10, 11, 12, 13, 14, 15, 16, 17, 18, 19, 20, 21, 22, 23, 24, 25, 26, 27, 28, 29, 30, 31, 32, 33, 34, 35, 36, 37, 38, 39, 40, 41, 42, 43, 44, 45, 46, 47, 48, 49, 50, 51, 52, 53, 54, 55, 56, 57, 58, 59, 6, 60, 61, 62, 63, 64, 65, 66, 67, 68, 69, 70, 71, 72, 73, 74, 75, 76, 77, 78, 79, 80, 81, 82, 83, 84, 85, 86, 87, 88, 89, 90, 91, 92, 93, 94, 95, 96, 97, 98, 99, 100, 101, 102, 103, 104, 105, 106, 107, 108, 109, 110, 111, 112, 113, 114, 115, 116, 117, 118, 119, 120, 121, 122, 123, 124, 125, 126, 127, 128, 129, 130, 131, 132, 133, 134, 135, 136, 137, 138, 139, 140, 141, 142, 143, 144, 145, 146, 147, 148, 149, 150, 151, 152, 153, 154, 155, 156, 157, 158, 159, 160, 161, 162, 163, 164, 165, 166, 167, 168, 169, 170, 171] (by decide +kernel) (by decide +kernel)) (goodIn_sub (fun _ h => List.mem_cons_of_mem _ (List.mem_append_left _ (List.mem_append_right _ h))) (by decide +kernel))) (goodIn_sub (fun _ h => List.mem_cons_of_mem _ (List.mem_append_right _ h)) (by decide +kernel))
set_option maxRecDepth 20000 in
theorem gL_setDoor_X8_setDoor : GoodIn wsL_setDoor (wsV RL 17 RX8 yX8_setDoor wsX8_setDoor) := goodIn_app (goodIn_of _ (by decide +kernel)) ggL_setDoor_X8_setDoor
theorem dL_setDoor_0 : decode cL_setDoor 0 = .ok (.aload_n 0, 1) := by decide +kernel
theorem dL_setDoor_1 : decode cL_setDoor 1 = .ok (.iload_n 1, 1) := by decide +kernel
theorem dL_setDoor_2 : decode cL_setDoor 2 = .ok (.iload_n 2, 1) := by decide +kernel
theorem dL_setDoor_3 : decode cL_setDoor 3 = .ok (.iload_n 3, 1) := by decide +kernel
theorem dL_setDoor_4 : decode cL_setDoor 4 = .ok (.invokevirtual 17, 3) := by decide +kernel
theorem dL_setDoor_7 : decode cL_setDoor 7 = .ok (.istore 4, 2) := by decide +kernel
theorem dL_setDoor_9 : decode cL_setDoor 9 = .ok (.goto 15, 3) := by decide +kernel
theorem dL_setDoor_12 : decode cL_setDoor 12 = .ok (.astore 5, 2) := by decide +kernel
theorem dL_setDoor_14 : decode cL_setDoor 14 = .ok (.sipush (-2053), 3) := by decide +kernel
theorem dL_setDoor_17 : decode cL_setDoor 17 = .ok (.ireturn, 1) := by decide +kernel
theorem dL_setDoor_18 : decode cL_setDoor 18 = .ok (.astore 5, 2) := by decide +kernel
theorem dL_setDoor_20 : decode cL_setDoor 20 = .ok (.sipush (-2051), 3) := by decide +kernel
theorem dL_setDoor_23 : decode cL_setDoor 23 = .ok (.ireturn, 1) := by decide +kernel
theorem dL_setDoor_24 : decode cL_setDoor 24 = .ok (.iload 4, 2) := by decide +kernel
theorem dL_setDoor_26 : decode cL_setDoor 26 = .ok (.ifCond .eq 7, 3) := by decide +kernel
theorem dL_setDoor_29 : decode cL_setDoor 29 = .ok (.iconst 1, 1) := by decide +kernel
theorem dL_setDoor_30 : decode cL_setDoor 30 = .ok (.goto 4, 3) := by decide +kernel
theorem dL_setDoor_33 : decode cL_setDoor 33 = .ok (.iconst 0, 1) := by decide +kernel
theorem dL_setDoor_34 : decode cL_setDoor 34 = .ok (.ireturn, 1) := by decide +kernel
set_option maxRecDepth 20000 in
theorem ggL_isOpen_X8_isOpen : GoodIn wsL_isOpen wsX8_isOpen := goodIn_ca (goodIn_r _ [6, 7, 8, 9, 10, 11, 12, 13, 14, 15, 16, 17, 18, 19, 20, 21, 22, 23, 24, 25, 26, 27, 28, 29, 30, 31, 32, 33, 34, 35, 36, 37, 38, 39] (by decide +kernel) (by decide +kernel)) (goodIn_sub (fun _ h => List.mem_cons_of_mem _ (List.mem_append_right _ h)) (by decide +kernel))
set_option maxRecDepth 20000 in
theorem gL_isOpen_X8_isOpen : GoodIn wsL_isOpen (wsV RL 23 RX8 yX8_isOpen wsX8_isOpen) := goodIn_app (goodIn_of _ (by decide +kernel)) ggL_isOpen_X8_isOpen
theorem dL_isOpen_0 : decode cL_isOpen 0 = .ok (.aload_n 0, 1) := by decide +kernel
theorem dL_isOpen_1 : decode cL_isOpen 1 = .ok (.iload_n 1, 1) := by decide +kernel
theorem dL_isOpen_2 : decode cL_isOpen 2 = .ok (.iload_n 2, 1) := by decide +kernel
theorem dL_isOpen_3 : decode cL_isOpen 3 = .ok (.invokevirtual 23, 3) := by decide +kernel
theorem dL_isOpen_6 : decode cL_isOpen 6 = .ok (.istore_n 3, 1) := by decide +kernel
theorem dL_isOpen_7 : decode cL_isOpen 7 = .ok (.goto 9, 3) := by decide +kernel
theorem dL_isOpen_10 : decode cL_isOpen 10 = .ok (.astore 4, 2) := by decide +kernel
theorem dL_isOpen_12 : decode cL_isOpen 12 = .ok (.sipush (-2053), 3) := by decide +kernel
theorem dL_isOpen_15 : decode cL_isOpen 15 = .ok (.ireturn, 1) := by decide +kernel
theorem dL_isOpen_16 : decode cL_isOpen 16 = .ok (.iload_n 3, 1) := by decide +kernel
theorem dL_isOpen_17 : decode cL_isOpen 17 = .ok (.ifCond .eq 7, 3) := by decide +kernel
theorem dL_isOpen_20 : decode cL_isOpen 20 = .ok (.iconst 1, 1) := by decide +kernel
theorem dL_isOpen_21 : decode cL_isOpen 21 = .ok (.goto 4, 3) := by decide +kernel
theorem dL_isOpen_24 : decode cL_isOpen 24 = .ok (.iconst 0, 1) := by decide +kernel
theorem dL_isOpen_25 : decode cL_isOpen 25 = .ok (.ireturn, 1) := by decide +kernel
set_option maxRecDepth 20000 in
theorem ggL_addFuel_X8_addFuel : GoodIn wsL_addFuel wsX8_addFuel := goodIn_ca (goodIn_r _ [6, 7, 8, 9, 10, 11, 12, 13, 14, 5, 15, 16, 17, 18, 19, 20, 21, 22, 23, 24, 25, 26, 27, 28, 29, 30, 31, 32, 33, 34, 35, 36, 37, 38, 39, 40, 41, 42, 43, 44, 45, 46, 47, 48, 49, 50, 51, 52, 53, 54, 55, 56, 57, 58, 59, 60, 61, 62, 63, 64, 65, 66, 67, 68, 69, 70, 71, 72, 73, 74, 75, 76, 77, 78, 79, 80, 81, 82, 83, 84, 85, 86, 87, 88, 89, 90, 91, 92, 93, 94, 95, 96, 97, 98, 99, 100, 101, 102, 103, 104, 105, 106, 107, 108, 109, 110, 111, 112, 113, 114, 115, 116, 117, 118, 119, 120, 121, 122, 123, 124, 125, 126, 127, 128, 129, 130, 131, 132, 133, 134, 135, 136, 137, 138, 139, 140, 141, 142, 143, 144, 145, 146, 147, 148, 149, 150, 151, 152, 153, 154, 155, 156, 157, 158, 159, 160, 161, 162] (by decide +kernel) (by decide +kernel)) (goodIn_sub (fun _ h => List.mem_cons_of_mem _ (List.mem_append_right _ h)) (by decide +kernel))
set_option maxRecDepth 20000 in
theorem gL_addFuel_X8_addFuel : GoodIn wsL_addFuel (wsV RL 27 RX8 yX8_addFuel wsX8_addFuel) := goodIn_app (goodIn_of _ (by decide +kernel)) ggL_addFuel_X8_addFuel
theorem dL_addFuel_0 : decode cL_addFuel 0 = .ok (.aload_n 0, 1) := by decide +kernel
theorem dL_addFuel_1 : decode cL_addFuel 1 = .ok (.iload_n 1, 1) := by decide +kernel
theorem dL_addFuel_2 : decode cL_addFuel 2 = .ok (.invokevirtual 27, 3) := by decide +kernel
theorem dL_addFuel_5 : decode cL_addFuel 5 = .ok (.istore_n 2, 1) := by decide +kernel
theorem dL_addFuel_6 : decode cL_addFuel 6 = .ok (.goto 8, 3) := by decide +kernel
theorem dL_addFuel_9 : decode cL_addFuel 9 = .ok (.astore_n 3, 1) := by decide +kernel
theorem dL_addFuel_10 : decode cL_addFuel 10 = .ok (.sipush (-2051), 3) := by decide +kernel
theorem dL_addFuel_13 : decode cL_addFuel 13 = .ok (.ireturn, 1) := by decide +kernel
theorem dL_addFuel_14 : decode cL_addFuel 14 = .ok (.iload_n 2, 1) := by decide +kernel
theorem dL_addFuel_15 : decode cL_addFuel 15 = .ok (.ireturn, 1) := by decide +kernel
set_option maxRecDepth 20000 in
theorem ggL_setTarget_X8_setTarget : GoodIn wsL_setTarget wsX8_setTarget := goodIn_ca (goodIn_r _ [6, 7, 8, 9, 10, 11, 12, 13, 14, 5, 15, 16, 17, 18, 19, 20, 21, 22, 23, 24, 25, 26, 27, 28, 29, 30, 31, 32, 33, 34, 35, 36, 37, 38, 39, 40, 41, 42, 43, 44, 45, 46, 47, 48, 49, 50, 51, 52, 53, 54, 55, 56, 57, 58, 59, 60, 61, 62, 63, 64, 65, 66, 67, 68, 69, 70, 71, 72, 73, 74, 75, 76, 77, 78, 79, 80, 81, 82, 83, 84, 85, 86, 87, 88, 89, 90, 91, 92, 93, 94, 95, 96, 97, 98, 99, 100, 101, 102, 103, 104, 105, 106, 107, 108, 109, 110, 111, 112, 113, 114, 115, 116, 117, 118, 119, 120, 121, 122, 123, 124, 125, 126, 127, 128, 129, 130, 131, 132, 133, 134, 135, 136, 137, 138, 139, 140, 141, 142, 143, 144, 145, 146, 147, 148, 149, 150, 151, 152, 153, 154, 155, 156, 157] (by decide +kernel) (by decide +kernel)) (goodIn_sub (fun _ h => List.mem_cons_of_mem _ (List.mem_append_right _ h)) (by decide +kernel))
set_option maxRecDepth 20000 in
theorem gL_setTarget_X8_setTarget : GoodIn wsL_setTarget (wsV RL 30 RX8 yX8_setTarget wsX8_setTarget) := goodIn_app (goodIn_of _ (by decide +kernel)) ggL_setTarget_X8_setTarget
theorem dL_setTarget_0 : decode cL_setTarget 0 = .ok (.aload_n 0, 1) := by decide +kernel
theorem dL_setTarget_1 : decode cL_setTarget 1 = .ok (.iload_n 1, 1) := by decide +kernel
theorem dL_setTarget_2 : decode cL_setTarget 2 = .ok (.invokevirtual 30, 3) := by decide +kernel
theorem dL_setTarget_5 : decode cL_setTarget 5 = .ok (.istore_n 2, 1) := by decide +kernel
theorem dL_setTarget_6 : decode cL_setTarget 6 = .ok (.goto 8, 3) := by decide +kernel
theorem dL_setTarget_9 : decode cL_setTarget 9 = .ok (.astore_n 3, 1) := by decide +kernel
theorem dL_setTarget_10 : decode cL_setTarget 10 = .ok (.sipush (-2051), 3) := by decide +kernel
theorem dL_setTarget_13 : decode cL_setTarget 13 = .ok (.ireturn, 1) := by decide +kernel
theorem dL_setTarget_14 : decode cL_setTarget 14 = .ok (.iload_n 2, 1) := by decide +kernel
theorem dL_setTarget_15 : decode cL_setTarget 15 = .ok (.ireturn, 1) := by decide +kernel
set_option maxRecDepth 20000 in
theorem ggL_set_X8_set : GoodIn wsL_set wsX8_set := goodIn_ca (goodIn_r _ [6, 7, 8, 9, 10, 11, 12, 13, 14, 5, 15, 16, 17, 18, 19, 20, 21, 22, 23, 24, 25, 26, 27, 28, 29, 30, 31, 32, 33, 34, 35, 36, 37, 38, 39, 40, 41, 42, 43, 44, 45, 46, 47, 48, 49, 50, 51, 52, 53, 54, 55, 56, 57, 58, 59, 60, 61, 62, 63, 64, 65, 66, 67, 68, 69, 70, 71, 72, 73, 74, 75, 76, 77, 78, 79, 80, 81, 82, 83, 84, 85, 86, 87, 88, 89, 90, 91, 92, 93, 94, 95, 96, 97, 98, 99, 100, 101, 102, 103, 104, 105, 106, 107, 108, 109, 110, 111, 112, 113, 114, 115, 116, 117, 118, 119, 120, 121, 122, 123, 124, 125, 126, 127, 128, 129, 130, 131, 132, 133, 134, 135, 136, 137, 138, 139, 140, 141, 142, 143, 144, 145, 146, 147, 148, 149, 150, 151, 152, 153, 154, 155, 156, 157, 158, 159, 160, 161, 162, 163, 164, 165, 166, 167, 168, 169, 170, 171, 172, 173, 174, 175, 176, 177, 178, 179, 180, 181, 182, 183, 184, 185] (by decide +kernel) (by decide +kernel)) (goodIn_sub (fun _ h => List.mem_cons_of_mem _ (List.mem_append_right _ h)) (by decide +kernel))
set_option maxRecDepth 20000 in
theorem gL_set_X8_set : GoodIn wsL_set (wsV RL 33 RX8 yX8_set wsX8_set) := goodIn_app (goodIn_of _ (by decide +kernel)) ggL_set_X8_set
theorem dL_set_0 : decode cL_set 0 = .ok (.aload_n 0, 1) := by decide +kernel
theorem dL_set_1 : decode cL_set 1 = .ok (.iload_n 1, 1) := by decide +kernel
theorem dL_set_2 : decode cL_set 2 = .ok (.iload_n 2, 1) := by decide +kernel
theorem dL_set_3 : decode cL_set 3 = .ok (.invokevirtual 33, 3) := by decide +kernel
theorem dL_set_6 : decode cL_set 6 = .ok (.istore_n 3, 1) := by decide +kernel
theorem dL_set_7 : decode cL_set 7 = .ok (.goto 9, 3) := by decide +kernel
theorem dL_set_10 : decode cL_set 10 = .ok (.astore 4, 2) := by decide +kernel
theorem dL_set_12 : decode cL_set 12 = .ok (.sipush (-2051), 3) := by decide +kernel
theorem dL_set_15 : decode cL_set 15 = .ok (.ireturn, 1) := by decide +kernel
theorem dL_set_16 : decode cL_set 16 = .ok (.iload_n 3, 1) := by decide +kernel
theorem dL_set_17 : decode cL_set 17 = .ok (.ireturn, 1) := by decide +kernel
set_option maxRecDepth 20000 in
theorem ggL_setSmoke_X8_setSmoke : GoodIn wsL_setSmoke wsX8_setSmoke := goodIn_ca (goodIn_ca (goodIn_r _ [7, 8, 9, 10, 11, 12, 13, 14, 15, 16, 17, 18, 19, 20, 21, 22, 23, 24, 6, 25, 26, 27, 28, 29, 30, 31, 32, 33, 34, 35, 36, 37, 38, 39, 40, 41, 42, 43, 44, 45, 46, 47, 48, 49, 50, 51, 52, 53, 54, 55, 56, 57, 58, 59, 60, 61, 62, 63, 64, 65, 66, 67, 68, 69, 70, 71, 72, 73, 74, 75, 76, 77, 78, 79, 80, 81, 82, 83, 84, 85, 86, 87, 88, 89, 90, 91, 92, 93, 94, 95, 96, 97, 98, 99, 100, 101, 102, 103, 104, 105, 106, 107, 108, 109, 110, 111, 112, 113, 114, 115, 116, 117, 118, 119, 120, 121, 122, 123, 124, 125, 126, 127, 128, 129, 130, 131, 132, 133, 134, 135, 136, 137, 138, 139, 140, 141, 142, 143, 144, 145, 146, 147, 148, 149, 150, 151, 152, 153, 154, 155, 156, 157, 158, 159, 160, 161, 162, 163, 164, 165] (by decide +kernel) (by decide +kernel)) (goodIn_sub (fun _ h => List.mem_cons_of_mem _ (List.mem_append_left _ (List.mem_append_right _ h))) (by decide +kernel))) (goodIn_sub (fun _ h => List.mem_cons_of_mem _ (List.mem_append_right _ h)) (by decide +kernel))
set_option maxRecDepth 20000 in
theorem gL_setSmoke_X8_setSmoke : GoodIn wsL_setSmoke (wsV RL 37 RX8 yX8_setSmoke wsX8_setSmoke) := goodIn_app (goodIn_of _ (by decide +kernel)) ggL_setSmoke_X8_setSmoke
theorem dL_setSmoke_0 : decode cL_setSmoke 0 = .ok (.aload_n 0, 1) := by decide +kernel
theorem dL_setSmoke_1 : decode cL_setSmoke 1 = .ok (.iload_n 1, 1) := by decide +kernel
theorem dL_setSmoke_2 : decode cL_setSmoke 2 = .ok (.iload_n 2, 1) := by decide +kernel
theorem dL_setSmoke_3 : decode cL_setSmoke 3 = .ok (.invokevirtual 37, 3) := by decide +kernel
theorem dL_setSmoke_6 : decode cL_setSmoke 6 = .ok (.istore_n 3, 1) := by decide +kernel
theorem dL_setSmoke_7 : decode cL_setSmoke 7 = .ok (.goto 15, 3) := by decide +kernel
theorem dL_setSmoke_10 : decode cL_setSmoke 10 = .ok (.astore 4, 2) := by decide +kernel
theorem dL_setSmoke_12 : decode cL_setSmoke 12 = .ok (.sipush (-2053), 3) := by decide +kernel
theorem dL_setSmoke_15 : decode cL_setSmoke 15 = .ok (.ireturn, 1) := by decide +kernel
theorem dL_setSmoke_16 : decode cL_setSmoke 16 = .ok (.astore 4, 2) := by decide +kernel
theorem dL_setSmoke_18 : decode cL_setSmoke 18 = .ok (.sipush (-2051), 3) := by decide +kernel
theorem dL_setSmoke_21 : decode cL_setSmoke 21 = .ok (.ireturn, 1) := by decide +kernel
theorem dL_setSmoke_22 : decode cL_setSmoke 22 = .ok (.iload_n 3, 1) := by decide +kernel
theorem dL_setSmoke_23 : decode cL_setSmoke 23 = .ok (.ireturn, 1) := by decide +kernel
set_option maxRecDepth 20000 in
theorem ggL_info_X8_info : GoodIn wsL_info wsX8_info := goodIn_ca (goodIn_r _ [6, 7, 8, 9, 10, 11, 5, 12, 13, 14, 15, 16, 17, 18, 19, 20, 21, 22, 23, 24, 25, 26, 27, 28, 29, 30, 31, 32, 33, 34, 35, 36, 37, 38, 39, 40, 41, 42, 43, 44, 45, 46, 47, 48, 49, 50, 51, 52, 53, 54, 55, 56, 57, 58, 59, 60, 61, 62, 63, 64, 65, 66, 67, 68, 69, 70, 71, 72, 73, 74, 75, 76, 77, 78, 79, 80, 81, 82, 83, 84, 85, 86, 87, 88, 89, 90, 91, 92] (by decide +kernel) (by decide +kernel)) (goodIn_sub (fun _ h => List.mem_cons_of_mem _ (List.mem_append_right _ h)) (by decide +kernel))
set_option maxRecDepth 20000 in
theorem gL_info_X8_info : GoodIn wsL_info (wsV RL 40 RX8 yX8_info wsX8_info) := goodIn_app (goodIn_of _ (by decide +kernel)) ggL_info_X8_info
theorem dL_info_0 : decode cL_info 0 = .ok (.aload_n 0, 1) := by decide +kernel
theorem dL_info_1 : decode cL_info 1 = .ok (.iload_n 1, 1) := by decide +kernel
theorem dL_info_2 : decode cL_info 2 = .ok (.invokevirtual 40, 3) := by decide +kernel
theorem dL_info_5 : decode cL_info 5 = .ok (.istore_n 2, 1) := by decide +kernel
theorem dL_info_6 : decode cL_info 6 = .ok (.goto 8, 3) := by decide +kernel
theorem dL_info_9 : decode cL_info 9 = .ok (.astore_n 3, 1) := by decide +kernel
theorem dL_info_10 : decode cL_info 10 = .ok (.sipush (-2051), 3) := by decide +kernel
theorem dL_info_13 : decode cL_info 13 = .ok (.ireturn, 1) := by decide +kernel
theorem dL_info_14 : decode cL_info 14 = .ok (.iload_n 2, 1) := by decide +kernel
theorem dL_info_15 : decode cL_info 15 = .ok (.ireturn, 1) := by decide +kernel
set_option maxRecDepth 20000 in
theorem ggL_room_X8_room : GoodIn wsL_room wsX8_room := goodIn_ca (goodIn_ca (goodIn_r _ [7, 8, 9, 10, 11, 12, 13, 14, 15, 16, 17, 18, 19, 20, 21, 6, 22, 23, 24, 25, 26, 27, 28, 29, 30, 31, 32, 33, 34, 35, 36, 37, 38, 39, 40, 41, 42, 43, 44, 45, 46, 47, 48, 49, 50, 51, 52, 53, 54, 55, 56, 57, 58, 59, 60, 61, 62, 63, 64, 65, 66, 67, 68, 69, 70, 71, 72, 73, 74, 75, 76, 77, 78, 79, 80, 81, 82, 83, 84, 85, 86, 87, 88, 89, 90, 91, 92, 93, 94, 95, 96, 97, 98] (by decide +kernel) (by decide +kernel)) (goodIn_sub (fun _ h => List.mem_cons_of_mem _ (List.mem_append_left _ (List.mem_append_right _ h))) (by decide +kernel))) (goodIn_sub (fun _ h => List.mem_cons_of_mem _ (List.mem_append_right _ h)) (by decide +kernel))
set_option maxRecDepth 20000 in
theorem gL_room_X8_room : GoodIn wsL_room (wsV RL 43 RX8 yX8_room wsX8_room) := goodIn_app (goodIn_of _ (by decide +kernel)) ggL_room_X8_room
theorem dL_room_0 : decode cL_room 0 = .ok (.aload_n 0, 1) := by decide +kernel
theorem dL_room_1 : decode cL_room 1 = .ok (.iload_n 1, 1) := by decide +kernel
theorem dL_room_2 : decode cL_room 2 = .ok (.iload_n 2, 1) := by decide +kernel
theorem dL_room_3 : decode cL_room 3 = .ok (.invokevirtual 43, 3) := by decide +kernel
theorem dL_room_6 : decode cL_room 6 = .ok (.istore_n 3, 1) := by decide +kernel
theorem dL_room_7 : decode cL_room 7 = .ok (.goto 15, 3) := by decide +kernel
theorem dL_room_10 : decode cL_room 10 = .ok (.astore 4, 2) := by decide +kernel
theorem dL_room_12 : decode cL_room 12 = .ok (.sipush (-2053), 3) := by decide +kernel
theorem dL_room_15 : decode cL_room 15 = .ok (.ireturn, 1) := by decide +kernel
theorem dL_room_16 : decode cL_room 16 = .ok (.astore 4, 2) := by decide +kernel
theorem dL_room_18 : decode cL_room 18 = .ok (.sipush (-2051), 3) := by decide +kernel
theorem dL_room_21 : decode cL_room 21 = .ok (.ireturn, 1) := by decide +kernel
theorem dL_room_22 : decode cL_room 22 = .ok (.iload_n 3, 1) := by decide +kernel
theorem dL_room_23 : decode cL_room 23 = .ok (.ireturn, 1) := by decide +kernel
set_option maxRecDepth 20000 in
theorem ggL_addSensor_X8_addSensor : GoodIn wsL_addSensor wsX8_addSensor := goodIn_ca (goodIn_ca (goodIn_ca (goodIn_r _ [8, 9, 10, 11, 12, 13, 14, 15, 16, 17, 18, 19, 20, 21, 22, 23, 24, 25, 26, 27, 7, 28, 29, 30, 31, 32, 33, 34, 35, 36, 37, 38, 39, 40, 41, 42, 43, 44, 45, 46, 47, 48, 49, 50, 51, 52, 53, 54, 55, 56, 57, 58, 59, 60, 61, 62, 63, 64, 65, 66, 67, 68, 69, 70, 71, 72, 73, 74, 75, 76, 77, 78, 79, 80, 81, 82, 83, 84, 85, 86, 87, 88, 89, 90, 91, 92, 93, 94, 95, 96, 97, 98, 99, 100, 101, 102, 103, 104, 105, 106, 107, 108, 109, 110, 111, 112, 113, 114, 115, 116, 117, 118, 119, 120, 121, 122, 123, 124, 125, 126, 127, 128, 129, 130, 131, 132, 133, 134, 135, 136, 137, 138, 139, 140, 141, 142, 143, 144, 145, 146, 147, 148, 149, 150, 151, 152, 153, 154, 155, 156, 157, 158, 159, 160, 161, 162, 163, 164, 165, 166, 167, 168, 169, 170, 171, 172] (by decide +kernel) (by decide +kernel)) (goodIn_sub (fun _ h => List.mem_cons_of_mem _ (List.mem_append_left _ (List.mem_append_left _ (List.mem_append_right _ h)))) (by decide +kernel))) (goodIn_sub (fun _ h => List.mem_cons_of_mem _ (List.mem_append_left _ (List.mem_append_right _ h))) (by decide +kernel))) (goodIn_sub (fun _ h => List.mem_cons_of_mem _ (List.mem_append_right _ h)) (by decide +kernel))
set_option maxRecDepth 20000 in
theorem gL_addSensor_X8_addSensor : GoodIn wsL_addSensor (wsV RL 46 RX8 yX8_addSensor wsX8_addSensor) := goodIn_app (goodIn_of _ (by decide +kernel)) ggL_addSensor_X8_addSensor
theorem dL_addSensor_0 : decode cL_addSensor 0 = .ok (.aload_n 0, 1) := by decide +kernel
theorem dL_addSensor_1 : decode cL_addSensor 1 = .ok (.iload_n 1, 1) := by decide +kernel
theorem dL_addSensor_2 : decode cL_addSensor 2 = .ok (.iload_n 2, 1) := by decide +kernel
theorem dL_addSensor_3 : decode cL_addSensor 3 = .ok (.iload_n 3, 1) := by decide +kernel
theorem dL_addSensor_4 : decode cL_addSensor 4 = .ok (.iload 4, 2) := by decide +kernel
theorem dL_addSensor_6 : decode cL_addSensor 6 = .ok (.iload 5, 2) := by decide +kernel
theorem dL_addSensor_8 : decode cL_addSensor 8 = .ok (.invokevirtual 46, 3) := by decide +kernel
theorem dL_addSensor_11 : decode cL_addSensor 11 = .ok (.istore 6, 2) := by decide +kernel
theorem dL_addSensor_13 : decode cL_addSensor 13 = .ok (.goto 21, 3) := by decide +kernel
theorem dL_addSensor_16 : decode cL_addSensor 16 = .ok (.astore 7, 2) := by decide +kernel
theorem dL_addSensor_18 : decode cL_addSensor 18 = .ok (.sipush (-2053), 3) := by decide +kernel
theorem dL_addSensor_21 : decode cL_addSensor 21 = .ok (.ireturn, 1) := by decide +kernel
theorem dL_addSensor_22 : decode cL_addSensor 22 = .ok (.astore 7, 2) := by decide +kernel
theorem dL_addSensor_24 : decode cL_addSensor 24 = .ok (.sipush (-2051), 3) := by decide +kernel
theorem dL_addSensor_27 : decode cL_addSensor 27 = .ok (.ireturn, 1) := by decide +kernel
theorem dL_addSensor_28 : decode cL_addSensor 28 = .ok (.astore 7, 2) := by decide +kernel
theorem dL_addSensor_30 : decode cL_addSensor 30 = .ok (.sipush (-2052), 3) := by decide +kernel
theorem dL_addSensor_33 : decode cL_addSensor 33 = .ok (.ireturn, 1) := by decide +kernel
theorem dL_addSensor_34 : decode cL_addSensor 34 = .ok (.iload 6, 2) := by decide +kernel
theorem dL_addSensor_36 : decode cL_addSensor 36 = .ok (.ireturn, 1) := by decide +kernel
set_option maxRecDepth 20000 in
theorem ggL_setFault_X8_setFault : GoodIn wsL_setFault wsX8_setFault := goodIn_ca (goodIn_ca (goodIn_r _ [7, 8, 9, 10, 11, 12, 13, 14, 15, 16, 17, 18, 19, 20, 21, 22, 23, 6, 24, 25, 26, 27, 28, 29, 30, 31, 32, 33, 34, 35, 36, 37, 38, 39, 40, 41, 42, 43, 44, 45, 46, 47, 48, 49, 50, 51, 52, 53, 54, 55, 56, 57, 58, 59, 60, 61, 62, 63, 64, 65, 66, 67, 68, 69, 70, 71, 72, 73, 74, 75, 76, 77, 78, 79, 80, 81, 82, 83, 84, 85, 86, 87, 88, 89, 90, 91, 92, 93, 94, 95, 96, 97, 98, 99, 100, 101, 102, 103, 104, 105, 106, 107, 108, 109, 110, 111, 112, 113, 114, 115, 116, 117, 118, 119, 120, 121, 122, 123, 124, 125, 126, 127, 128, 129, 130, 131, 132, 133, 134, 135, 136, 137, 138, 139, 140, 141, 142, 143, 144, 145, 146, 147, 148, 149, 150, 151, 152, 153, 154, 155, 156, 157, 158, 159, 160, 161, 162, 163, 164] (by decide +kernel) (by decide +kernel)) (goodIn_sub (fun _ h => List.mem_cons_of_mem _ (List.mem_append_left _ (List.mem_append_right _ h))) (by decide +kernel))) (goodIn_sub (fun _ h => List.mem_cons_of_mem _ (List.mem_append_right _ h)) (by decide +kernel))
set_option maxRecDepth 20000 in
theorem gL_setFault_X8_setFault : GoodIn wsL_setFault (wsV RL 52 RX8 yX8_setFault wsX8_setFault) := goodIn_app (goodIn_of _ (by decide +kernel)) ggL_setFault_X8_setFault
theorem dL_setFault_0 : decode cL_setFault 0 = .ok (.aload_n 0, 1) := by decide +kernel
theorem dL_setFault_1 : decode cL_setFault 1 = .ok (.iload_n 1, 1) := by decide +kernel
theorem dL_setFault_2 : decode cL_setFault 2 = .ok (.iload_n 2, 1) := by decide +kernel
theorem dL_setFault_3 : decode cL_setFault 3 = .ok (.invokevirtual 52, 3) := by decide +kernel
theorem dL_setFault_6 : decode cL_setFault 6 = .ok (.istore_n 3, 1) := by decide +kernel
theorem dL_setFault_7 : decode cL_setFault 7 = .ok (.goto 15, 3) := by decide +kernel
theorem dL_setFault_10 : decode cL_setFault 10 = .ok (.astore 4, 2) := by decide +kernel
theorem dL_setFault_12 : decode cL_setFault 12 = .ok (.sipush (-2053), 3) := by decide +kernel
theorem dL_setFault_15 : decode cL_setFault 15 = .ok (.ireturn, 1) := by decide +kernel
theorem dL_setFault_16 : decode cL_setFault 16 = .ok (.astore 4, 2) := by decide +kernel
theorem dL_setFault_18 : decode cL_setFault 18 = .ok (.sipush (-2051), 3) := by decide +kernel
theorem dL_setFault_21 : decode cL_setFault 21 = .ok (.ireturn, 1) := by decide +kernel
theorem dL_setFault_22 : decode cL_setFault 22 = .ok (.iload_n 3, 1) := by decide +kernel
theorem dL_setFault_23 : decode cL_setFault 23 = .ok (.ireturn, 1) := by decide +kernel
set_option maxRecDepth 20000 in
theorem ggL_sensor_X8_sensor : GoodIn wsL_sensor wsX8_sensor := goodIn_ca (goodIn_ca (goodIn_r _ [7, 8, 9, 10, 11, 12, 13, 14, 15, 16, 17, 18, 19, 20, 21, 6, 22, 23, 24, 25, 26, 27, 28, 29, 30, 31, 32, 33, 34, 35, 36, 37, 38, 39, 40, 41, 42, 43, 44, 45, 46, 47, 48, 49, 50, 51, 52, 53, 54, 55, 56, 57, 58, 59, 60, 61, 62, 63, 64, 65, 66, 67, 68, 69, 70, 71, 72, 73, 74, 75, 76, 77, 78, 79, 80, 81, 82, 83, 84, 85, 86, 87, 88, 89, 90, 91, 92, 93, 94, 95, 96, 97, 98] (by decide +kernel) (by decide +kernel)) (goodIn_sub (fun _ h => List.mem_cons_of_mem _ (List.mem_append_left _ (List.mem_append_right _ h))) (by decide +kernel))) (goodIn_sub (fun _ h => List.mem_cons_of_mem _ (List.mem_append_right _ h)) (by decide +kernel))
set_option maxRecDepth 20000 in
theorem gL_sensor_X8_sensor : GoodIn wsL_sensor (wsV RL 55 RX8 yX8_sensor wsX8_sensor) := goodIn_app (goodIn_of _ (by decide +kernel)) ggL_sensor_X8_sensor
theorem dL_sensor_0 : decode cL_sensor 0 = .ok (.aload_n 0, 1) := by decide +kernel
theorem dL_sensor_1 : decode cL_sensor 1 = .ok (.iload_n 1, 1) := by decide +kernel
theorem dL_sensor_2 : decode cL_sensor 2 = .ok (.iload_n 2, 1) := by decide +kernel
theorem dL_sensor_3 : decode cL_sensor 3 = .ok (.invokevirtual 55, 3) := by decide +kernel
theorem dL_sensor_6 : decode cL_sensor 6 = .ok (.istore_n 3, 1) := by decide +kernel
theorem dL_sensor_7 : decode cL_sensor 7 = .ok (.goto 15, 3) := by decide +kernel
theorem dL_sensor_10 : decode cL_sensor 10 = .ok (.astore 4, 2) := by decide +kernel
theorem dL_sensor_12 : decode cL_sensor 12 = .ok (.sipush (-2053), 3) := by decide +kernel
theorem dL_sensor_15 : decode cL_sensor 15 = .ok (.ireturn, 1) := by decide +kernel
theorem dL_sensor_16 : decode cL_sensor 16 = .ok (.astore 4, 2) := by decide +kernel
theorem dL_sensor_18 : decode cL_sensor 18 = .ok (.sipush (-2051), 3) := by decide +kernel
theorem dL_sensor_21 : decode cL_sensor 21 = .ok (.ireturn, 1) := by decide +kernel
theorem dL_sensor_22 : decode cL_sensor 22 = .ok (.iload_n 3, 1) := by decide +kernel
theorem dL_sensor_23 : decode cL_sensor 23 = .ok (.ireturn, 1) := by decide +kernel
set_option maxRecDepth 20000 in
theorem ggL_addRule_X8_addRule : GoodIn wsL_addRule wsX8_addRule := goodIn_ca (goodIn_ca (goodIn_ca (goodIn_r _ [8, 9, 10, 11, 12, 13, 14, 15, 16, 17, 18, 19, 20, 21, 22, 23, 24, 25, 26, 27, 7, 28, 29, 30, 31, 32, 33, 34, 35, 36, 37, 38, 39, 40, 41, 42, 43, 44, 45, 46, 47, 48, 49, 50, 51, 52, 53, 54, 55, 56, 57, 58, 59, 60, 61, 62, 63, 64, 65, 66, 67, 68, 69, 70, 71, 72, 73, 74, 75, 76, 77, 78, 79, 80, 81, 82, 83, 84, 85, 86, 87, 88, 89, 90, 91, 92, 93, 94, 95, 96, 97, 98, 99, 100, 101, 102, 103, 104, 105, 106, 107, 108, 109, 110, 111, 112, 113, 114, 115, 116, 117, 118, 119, 120, 121, 122, 123, 124, 125, 126, 127, 128, 129, 130, 131, 132, 133, 134, 135, 136, 137, 138, 139, 140, 141, 142, 143, 144, 145, 146, 147, 148, 149, 150, 151, 152, 153, 154, 155, 156, 157, 158, 159, 160, 161, 162, 163, 164, 165, 166, 167, 168, 169, 170, 171, 172] (by decide +kernel) (by decide +kernel)) (goodIn_sub (fun _ h => List.mem_cons_of_mem _ (List.mem_append_left _ (List.mem_append_left _ (List.mem_append_right _ h)))) (by decide +kernel))) (goodIn_sub (fun _ h => List.mem_cons_of_mem _ (List.mem_append_left _ (List.mem_append_right _ h))) (by decide +kernel))) (goodIn_sub (fun _ h => List.mem_cons_of_mem _ (List.mem_append_right _ h)) (by decide +kernel))
set_option maxRecDepth 20000 in
theorem gL_addRule_X8_addRule : GoodIn wsL_addRule (wsV RL 58 RX8 yX8_addRule wsX8_addRule) := goodIn_app (goodIn_of _ (by decide +kernel)) ggL_addRule_X8_addRule
theorem dL_addRule_0 : decode cL_addRule 0 = .ok (.aload_n 0, 1) := by decide +kernel
theorem dL_addRule_1 : decode cL_addRule 1 = .ok (.iload_n 1, 1) := by decide +kernel
theorem dL_addRule_2 : decode cL_addRule 2 = .ok (.iload_n 2, 1) := by decide +kernel
theorem dL_addRule_3 : decode cL_addRule 3 = .ok (.iload_n 3, 1) := by decide +kernel
theorem dL_addRule_4 : decode cL_addRule 4 = .ok (.iload 4, 2) := by decide +kernel
theorem dL_addRule_6 : decode cL_addRule 6 = .ok (.invokevirtual 58, 3) := by decide +kernel
theorem dL_addRule_9 : decode cL_addRule 9 = .ok (.istore 5, 2) := by decide +kernel
theorem dL_addRule_11 : decode cL_addRule 11 = .ok (.goto 21, 3) := by decide +kernel
theorem dL_addRule_14 : decode cL_addRule 14 = .ok (.astore 6, 2) := by decide +kernel
theorem dL_addRule_16 : decode cL_addRule 16 = .ok (.sipush (-2053), 3) := by decide +kernel
theorem dL_addRule_19 : decode cL_addRule 19 = .ok (.ireturn, 1) := by decide +kernel
theorem dL_addRule_20 : decode cL_addRule 20 = .ok (.astore 6, 2) := by decide +kernel
theorem dL_addRule_22 : decode cL_addRule 22 = .ok (.sipush (-2051), 3) := by decide +kernel
theorem dL_addRule_25 : decode cL_addRule 25 = .ok (.ireturn, 1) := by decide +kernel
theorem dL_addRule_26 : decode cL_addRule 26 = .ok (.astore 6, 2) := by decide +kernel
theorem dL_addRule_28 : decode cL_addRule 28 = .ok (.sipush (-2052), 3) := by decide +kernel
theorem dL_addRule_31 : decode cL_addRule 31 = .ok (.ireturn, 1) := by decide +kernel
theorem dL_addRule_32 : decode cL_addRule 32 = .ok (.iload 5, 2) := by decide +kernel
theorem dL_addRule_34 : decode cL_addRule 34 = .ok (.ireturn, 1) := by decide +kernel
set_option maxRecDepth 20000 in
theorem ggL_removeRule_X8_removeRule : GoodIn wsL_removeRule wsX8_removeRule := goodIn_ca (goodIn_r _ [6, 7, 8, 9, 10, 11, 12, 13, 14, 15, 16, 17, 18, 19, 20, 21, 22, 23, 24, 25, 26, 27, 28, 29, 30, 31, 32, 33, 34, 35, 36, 37, 38, 39, 40, 41, 42, 43, 44, 45, 46, 47, 48, 49, 50, 51, 52, 5, 53, 54, 55, 56, 57, 58, 59, 60, 61, 62, 63, 64, 65, 66, 67, 68, 69, 70, 71, 72, 73, 74, 75, 76, 77, 78, 79, 80, 81, 82, 83, 84, 85, 86, 87, 88, 89, 90, 91, 92, 93, 94, 95, 96, 97, 98, 99, 100, 101, 102, 103, 104, 105, 106, 107, 108, 109, 110, 111, 112, 113, 114, 115, 116, 117, 118, 119, 120, 121, 122, 123, 124, 125, 126, 127, 128, 129, 130, 131, 132, 133, 134, 135, 136, 137, 138, 139, 140, 141, 142, 143, 144, 145, 146, 147, 148, 149, 150, 151, 152, 153, 154, 155, 156, 157, 158, 159, 160, 161, 162] (by decide +kernel) (by decide +kernel)) (goodIn_sub (fun _ h => List.mem_cons_of_mem _ (List.mem_append_right _ h)) (by decide +kernel))
set_option maxRecDepth 20000 in
theorem gL_removeRule_X8_removeRule : GoodIn wsL_removeRule (wsV RL 62 RX8 yX8_removeRule wsX8_removeRule) := goodIn_app (goodIn_of _ (by decide +kernel)) ggL_removeRule_X8_removeRule
theorem dL_removeRule_0 : decode cL_removeRule 0 = .ok (.aload_n 0, 1) := by decide +kernel
theorem dL_removeRule_1 : decode cL_removeRule 1 = .ok (.iload_n 1, 1) := by decide +kernel
theorem dL_removeRule_2 : decode cL_removeRule 2 = .ok (.invokevirtual 62, 3) := by decide +kernel
theorem dL_removeRule_5 : decode cL_removeRule 5 = .ok (.istore_n 2, 1) := by decide +kernel
theorem dL_removeRule_6 : decode cL_removeRule 6 = .ok (.goto 8, 3) := by decide +kernel
theorem dL_removeRule_9 : decode cL_removeRule 9 = .ok (.astore_n 3, 1) := by decide +kernel
theorem dL_removeRule_10 : decode cL_removeRule 10 = .ok (.sipush (-2053), 3) := by decide +kernel
theorem dL_removeRule_13 : decode cL_removeRule 13 = .ok (.ireturn, 1) := by decide +kernel
theorem dL_removeRule_14 : decode cL_removeRule 14 = .ok (.iload_n 2, 1) := by decide +kernel
theorem dL_removeRule_15 : decode cL_removeRule 15 = .ok (.ireturn, 1) := by decide +kernel
set_option maxRecDepth 20000 in
theorem ggL_addEvent_X8_addEvent : GoodIn wsL_addEvent wsX8_addEvent := goodIn_ca (goodIn_ca (goodIn_r _ [7, 8, 9, 10, 11, 12, 13, 14, 15, 16, 17, 18, 6, 19, 20, 21, 22, 23, 24, 25, 26, 27, 28, 29, 30, 31, 32, 33, 34, 35, 36, 37, 38, 39, 40, 41, 42, 43, 44, 45, 46, 47, 48, 49, 50, 51, 52, 53, 54, 55, 56, 57, 58, 59, 60, 61, 62, 63, 64, 65, 66, 67, 68, 69, 70, 71, 72, 73, 74, 75, 76, 77, 78, 79, 80, 81, 82, 83, 84, 85, 86, 87, 88, 89, 90, 91, 92, 93, 94, 95, 96, 97, 98, 99, 100, 101, 102, 103, 104, 105, 106, 107, 108, 109, 110, 111, 112, 113, 114, 115, 116, 117, 118, 119, 120, 121, 122, 123, 124, 125, 126, 127, 128, 129, 130, 131, 132, 133, 134, 135, 136, 137, 138, 139, 140, 141, 142, 143, 144, 145, 146, 147, 148, 149, 150, 151, 152, 153, 154, 155, 156, 157, 158, 159, 160, 161, 162, 163, 164, 165, 166, 167, 168, 169, 170, 171, 172, 173, 174, 175, 176, 177, 178, 179, 180, 181, 182, 183, 184, 185] (by decide +kernel) (by decide +kernel)) (goodIn_sub (fun _ h => List.mem_cons_of_mem _ (List.mem_append_left _ (List.mem_append_right _ h))) (by decide +kernel))) (goodIn_sub (fun _ h => List.mem_cons_of_mem _ (List.mem_append_right _ h)) (by decide +kernel))
set_option maxRecDepth 20000 in
theorem gL_addEvent_X8_addEvent : GoodIn wsL_addEvent (wsV RL 65 RX8 yX8_addEvent wsX8_addEvent) := goodIn_app (goodIn_of _ (by decide +kernel)) ggL_addEvent_X8_addEvent
theorem dL_addEvent_0 : decode cL_addEvent 0 = .ok (.aload_n 0, 1) := by decide +kernel
theorem dL_addEvent_1 : decode cL_addEvent 1 = .ok (.iload_n 1, 1) := by decide +kernel
theorem dL_addEvent_2 : decode cL_addEvent 2 = .ok (.iload_n 2, 1) := by decide +kernel
theorem dL_addEvent_3 : decode cL_addEvent 3 = .ok (.iload_n 3, 1) := by decide +kernel
theorem dL_addEvent_4 : decode cL_addEvent 4 = .ok (.iload 4, 2) := by decide +kernel
theorem dL_addEvent_6 : decode cL_addEvent 6 = .ok (.invokevirtual 65, 3) := by decide +kernel
theorem dL_addEvent_9 : decode cL_addEvent 9 = .ok (.istore 5, 2) := by decide +kernel
theorem dL_addEvent_11 : decode cL_addEvent 11 = .ok (.goto 15, 3) := by decide +kernel
theorem dL_addEvent_14 : decode cL_addEvent 14 = .ok (.astore 6, 2) := by decide +kernel
theorem dL_addEvent_16 : decode cL_addEvent 16 = .ok (.sipush (-2051), 3) := by decide +kernel
theorem dL_addEvent_19 : decode cL_addEvent 19 = .ok (.ireturn, 1) := by decide +kernel
theorem dL_addEvent_20 : decode cL_addEvent 20 = .ok (.astore 6, 2) := by decide +kernel
theorem dL_addEvent_22 : decode cL_addEvent 22 = .ok (.sipush (-2052), 3) := by decide +kernel
theorem dL_addEvent_25 : decode cL_addEvent 25 = .ok (.ireturn, 1) := by decide +kernel
theorem dL_addEvent_26 : decode cL_addEvent 26 = .ok (.iload 5, 2) := by decide +kernel
theorem dL_addEvent_28 : decode cL_addEvent 28 = .ok (.ireturn, 1) := by decide +kernel
set_option maxRecDepth 20000 in
theorem ggL_event_X8_event : GoodIn wsL_event wsX8_event := goodIn_ca (goodIn_r _ [6, 7, 8, 9, 10, 11, 12, 5, 13, 14, 15, 16, 17, 18, 19, 20, 21, 22, 23, 24, 25, 26, 27, 28, 29, 30, 31, 32, 33, 34, 35, 36, 37, 38, 39, 40, 41, 42, 43] (by decide +kernel) (by decide +kernel)) (goodIn_sub (fun _ h => List.mem_cons_of_mem _ (List.mem_append_right _ h)) (by decide +kernel))
set_option maxRecDepth 20000 in
theorem gL_event_X8_event : GoodIn wsL_event (wsV RL 68 RX8 yX8_event wsX8_event) := goodIn_app (goodIn_of _ (by decide +kernel)) ggL_event_X8_event
theorem dL_event_0 : decode cL_event 0 = .ok (.aload_n 0, 1) := by decide +kernel
theorem dL_event_1 : decode cL_event 1 = .ok (.iload_n 1, 1) := by decide +kernel
theorem dL_event_2 : decode cL_event 2 = .ok (.iload_n 2, 1) := by decide +kernel
theorem dL_event_3 : decode cL_event 3 = .ok (.invokevirtual 68, 3) := by decide +kernel
theorem dL_event_6 : decode cL_event 6 = .ok (.istore_n 3, 1) := by decide +kernel
theorem dL_event_7 : decode cL_event 7 = .ok (.goto 9, 3) := by decide +kernel
theorem dL_event_10 : decode cL_event 10 = .ok (.astore 4, 2) := by decide +kernel
theorem dL_event_12 : decode cL_event 12 = .ok (.sipush (-2051), 3) := by decide +kernel
theorem dL_event_15 : decode cL_event 15 = .ok (.ireturn, 1) := by decide +kernel
theorem dL_event_16 : decode cL_event 16 = .ok (.iload_n 3, 1) := by decide +kernel
theorem dL_event_17 : decode cL_event 17 = .ok (.ireturn, 1) := by decide +kernel
set_option maxRecDepth 20000 in
theorem ggL_mute_X8_mute : GoodIn wsL_mute wsX8_mute := goodIn_ca (goodIn_ca (goodIn_r _ [7, 8, 9, 10, 11, 12, 13, 14, 15, 16, 17, 18, 19, 20, 21, 22, 23, 24, 6, 25, 26, 27, 28, 29, 30, 31, 32, 33, 34, 35, 36, 37, 38, 39, 40, 41, 42, 43, 44, 45, 46, 47, 48, 49, 50, 51, 52, 53, 54, 55, 56, 57, 58, 59, 60, 61, 62, 63, 64, 65, 66, 67, 68, 69, 70, 71, 72, 73, 74, 75, 76, 77, 78, 79, 80, 81, 82, 83, 84, 85, 86, 87, 88, 89, 90, 91, 92, 93, 94, 95, 96, 97, 98, 99, 100, 101, 102, 103, 104, 105, 106, 107, 108, 109, 110, 111, 112, 113, 114, 115, 116, 117, 118, 119, 120, 121, 122, 123, 124, 125, 126, 127, 128, 129, 130, 131, 132, 133, 134, 135, 136, 137, 138, 139, 140, 141, 142, 143, 144, 145, 146, 147, 148, 149, 150, 151, 152, 153, 154, 155, 156, 157, 158, 159, 160, 161, 162, 163, 164, 165] (by decide +kernel) (by decide +kernel)) (goodIn_sub (fun _ h => List.mem_cons_of_mem _ (List.mem_append_left _ (List.mem_append_right _ h))) (by decide +kernel))) (goodIn_sub (fun _ h => List.mem_cons_of_mem _ (List.mem_append_right _ h)) (by decide +kernel))
set_option maxRecDepth 20000 in
theorem gL_mute_X8_mute : GoodIn wsL_mute (wsV RL 71 RX8 yX8_mute wsX8_mute) := goodIn_app (goodIn_of _ (by decide +kernel)) ggL_mute_X8_mute
theorem dL_mute_0 : decode cL_mute 0 = .ok (.aload_n 0, 1) := by decide +kernel
theorem dL_mute_1 : decode cL_mute 1 = .ok (.iload_n 1, 1) := by decide +kernel
theorem dL_mute_2 : decode cL_mute 2 = .ok (.iload_n 2, 1) := by decide +kernel
theorem dL_mute_3 : decode cL_mute 3 = .ok (.invokevirtual 71, 3) := by decide +kernel
theorem dL_mute_6 : decode cL_mute 6 = .ok (.istore_n 3, 1) := by decide +kernel
theorem dL_mute_7 : decode cL_mute 7 = .ok (.goto 15, 3) := by decide +kernel
theorem dL_mute_10 : decode cL_mute 10 = .ok (.astore 4, 2) := by decide +kernel
theorem dL_mute_12 : decode cL_mute 12 = .ok (.sipush (-2053), 3) := by decide +kernel
theorem dL_mute_15 : decode cL_mute 15 = .ok (.ireturn, 1) := by decide +kernel
theorem dL_mute_16 : decode cL_mute 16 = .ok (.astore 4, 2) := by decide +kernel
theorem dL_mute_18 : decode cL_mute 18 = .ok (.sipush (-2051), 3) := by decide +kernel
theorem dL_mute_21 : decode cL_mute 21 = .ok (.ireturn, 1) := by decide +kernel
theorem dL_mute_22 : decode cL_mute 22 = .ok (.iload_n 3, 1) := by decide +kernel
theorem dL_mute_23 : decode cL_mute 23 = .ok (.ireturn, 1) := by decide +kernel
set_option maxRecDepth 20000 in
theorem ggL_pass_X8_pass : GoodIn wsL_pass wsX8_pass := goodIn_ca (goodIn_r _ [6, 7, 8, 9, 10, 11, 12, 5, 13, 14, 15, 16, 17, 18, 19, 20, 21, 22, 23, 24, 25, 26, 27, 28, 29, 30, 31, 32, 33, 34, 35, 36, 37, 38, 39, 40, 41, 42, 43, 44, 45, 46, 47, 48, 49, 50, 51, 52, 53, 54, 55, 56, 57, 58, 59, 60, 61, 62, 63, 64, 65, 66, 67, 68, 69, 70, 71, 72, 73, 74, 75, 76, 77, 78, 79, 80, 81, 82, 83, 84, 85, 86, 87, 88, 89, 90, 91, 92, 93, 94, 95, 96, 97, 98, 99, 100, 101, 102, 103, 104, 105, 106, 107, 108, 109, 110, 111, 112, 113, 114, 115, 116, 117, 118, 119, 120, 121, 122, 123, 124, 125, 126, 127, 128, 129, 130, 131, 132, 133, 134, 135, 136, 137, 138, 139, 140, 141, 142, 143, 144, 145, 146, 147, 148, 149, 150, 151, 152, 153, 154, 155, 156, 157, 158, 159, 160, 161, 162, 163, 164, 165, 166, 167, 168, 169, 170, 171, 172, 173, 174, 175, 176, 177, 178, 179, 180, 181, 182, 183, 184, 185, 186, 187, 188, 189, 190, 191, 192, 193, 194, 195, 196, 197, 198, 199, 200, 201, 202, 203, 204, 205, 206, 207, 208, 209, 210, 211, 212, 213, 214, 215, 216, 217, 218, 219, 220, 221, 222, 223, 224, 225, 226, 227, 228, 229, 230, 231, 232, 233, 234, 235, 236, 237, 238, 239, 240, 241, 242, 243, 244, 245, 246, 247, 248, 249, 250, 251, 252, 253, 254, 255, 256, 257, 258, 259, 260, 261, 262, 263, 264, 265, 266, 267, 268, 269, 270, 271, 272, 273, 274, 275, 276, 277, 278, 279, 280, 281, 282, 283, 284, 285, 286, 287, 288, 289, 290, 291, 292, 293, 294, 295, 296, 297, 298, 299, 300, 301, 302, 303, 304, 305, 306, 307, 308, 309, 310, 311, 312, 313, 314, 315, 316, 317, 318, 319, 320, 321, 322, 323] (by decide +kernel) (by decide +kernel)) (goodIn_sub (fun _ h => List.mem_cons_of_mem _ (List.mem_append_right _ h)) (by decide +kernel))
set_option maxRecDepth 20000 in
theorem gL_pass_X8_pass : GoodIn wsL_pass (wsV RL 74 RX8 yX8_pass wsX8_pass) := goodIn_app (goodIn_of _ (by decide +kernel)) ggL_pass_X8_pass
theorem dL_pass_0 : decode cL_pass 0 = .ok (.aload_n 0, 1) := by decide +kernel
theorem dL_pass_1 : decode cL_pass 1 = .ok (.iload_n 1, 1) := by decide +kernel
theorem dL_pass_2 : decode cL_pass 2 = .ok (.invokevirtual 74, 3) := by decide +kernel
theorem dL_pass_5 : decode cL_pass 5 = .ok (.istore_n 2, 1) := by decide +kernel
theorem dL_pass_6 : decode cL_pass 6 = .ok (.goto 8, 3) := by decide +kernel
theorem dL_pass_9 : decode cL_pass 9 = .ok (.astore_n 3, 1) := by decide +kernel
theorem dL_pass_10 : decode cL_pass 10 = .ok (.sipush (-2051), 3) := by decide +kernel
theorem dL_pass_13 : decode cL_pass 13 = .ok (.ireturn, 1) := by decide +kernel
theorem dL_pass_14 : decode cL_pass 14 = .ok (.iload_n 2, 1) := by decide +kernel
theorem dL_pass_15 : decode cL_pass 15 = .ok (.ireturn, 1) := by decide +kernel
set_option maxRecDepth 20000 in
theorem ggL_told_X8_told : GoodIn wsL_told wsX8_told := goodIn_ca (goodIn_r _ [6, 7, 8, 9, 10, 11, 12, 5, 13, 14, 15, 16, 17, 18, 19, 20, 21, 22, 23, 24] (by decide +kernel) (by decide +kernel)) (goodIn_sub (fun _ h => List.mem_cons_of_mem _ (List.mem_append_right _ h)) (by decide +kernel))
set_option maxRecDepth 20000 in
theorem gL_told_X8_told : GoodIn wsL_told (wsV RL 77 RX8 yX8_told wsX8_told) := goodIn_app (goodIn_of _ (by decide +kernel)) ggL_told_X8_told
theorem dL_told_0 : decode cL_told 0 = .ok (.aload_n 0, 1) := by decide +kernel
theorem dL_told_1 : decode cL_told 1 = .ok (.iload_n 1, 1) := by decide +kernel
theorem dL_told_2 : decode cL_told 2 = .ok (.invokevirtual 77, 3) := by decide +kernel
theorem dL_told_5 : decode cL_told 5 = .ok (.istore_n 2, 1) := by decide +kernel
theorem dL_told_6 : decode cL_told 6 = .ok (.goto 8, 3) := by decide +kernel
theorem dL_told_9 : decode cL_told 9 = .ok (.astore_n 3, 1) := by decide +kernel
theorem dL_told_10 : decode cL_told 10 = .ok (.sipush (-2051), 3) := by decide +kernel
theorem dL_told_13 : decode cL_told 13 = .ok (.ireturn, 1) := by decide +kernel
theorem dL_told_14 : decode cL_told 14 = .ok (.iload_n 2, 1) := by decide +kernel
theorem dL_told_15 : decode cL_told 15 = .ok (.ireturn, 1) := by decide +kernel
set_option maxRecDepth 20000 in
theorem ggL_alarmIn_X8_alarmIn : GoodIn wsL_alarmIn wsX8_alarmIn := goodIn_ca (goodIn_ca (goodIn_r _ [7, 8, 9, 10, 11, 12, 13, 14, 15, 16, 17, 18, 19, 20, 21, 22, 23, 6, 24, 25, 26, 27, 28, 29, 30, 31, 32, 33, 34, 35, 36, 37, 38, 39, 40, 41, 42, 43, 44, 45, 46, 47, 48, 49, 50, 51, 52, 53, 54, 55, 56, 57, 58, 59, 60, 61, 62, 63, 64, 65, 66, 67, 68, 69, 70, 71, 72, 73, 74, 75, 76, 77, 78, 79, 80, 81, 82, 83, 84, 85, 86, 87, 88, 89, 90, 91, 92, 93, 94, 95, 96, 97, 98, 99, 100, 101, 102, 103, 104, 105, 106, 107, 108, 109, 110, 111, 112, 113, 114, 115, 116, 117, 118, 119, 120, 121, 122, 123, 124, 125, 126, 127, 128, 129, 130, 131, 132, 133, 134, 135, 136, 137, 138, 139, 140, 141, 142, 143, 144, 145, 146, 147, 148, 149, 150, 151, 152, 153, 154, 155, 156, 157, 158, 159, 160, 161, 162, 163, 164, 165, 166, 167, 168, 169, 170, 171, 172, 173, 174, 175, 176, 177, 178, 179, 180, 181, 182, 183, 184, 185, 186, 187, 188, 189, 190, 191, 192, 193, 194, 195, 196, 197, 198, 199, 200, 201, 202, 203, 204, 205, 206, 207, 208, 209, 210, 211, 212, 213, 214, 215, 216, 217, 218, 219, 220, 221, 222, 223, 224, 225, 226, 227, 228, 229, 230, 231, 232, 233, 234, 235, 236, 237, 238, 239, 240, 241, 242, 243, 244, 245, 246, 247, 248, 249, 250, 251, 252, 253, 254, 255, 256, 257, 258, 259, 260, 261, 262, 263, 264, 265, 266, 267, 268, 269, 270, 271, 272, 273, 274, 275, 276, 277, 278, 279, 280, 281, 282, 283, 284, 285, 286, 287, 288, 289, 290, 291, 292, 293, 294, 295, 296, 297, 298, 299, 300, 301, 302, 303, 304, 305, 306, 307, 308, 309, 310, 311, 312, 313, 314, 315, 316, 317, 318, 319] (by decide +kernel) (by decide +kernel)) (goodIn_sub (fun _ h => List.mem_cons_of_mem _ (List.mem_append_left _ (List.mem_append_right _ h))) (by decide +kernel))) (goodIn_sub (fun _ h => List.mem_cons_of_mem _ (List.mem_append_right _ h)) (by decide +kernel))
set_option maxRecDepth 20000 in
theorem gL_alarmIn_X8_alarmIn : GoodIn wsL_alarmIn (wsV RL 80 RX8 yX8_alarmIn wsX8_alarmIn) := goodIn_app (goodIn_of _ (by decide +kernel)) ggL_alarmIn_X8_alarmIn
theorem dL_alarmIn_0 : decode cL_alarmIn 0 = .ok (.aload_n 0, 1) := by decide +kernel
theorem dL_alarmIn_1 : decode cL_alarmIn 1 = .ok (.iload_n 1, 1) := by decide +kernel
theorem dL_alarmIn_2 : decode cL_alarmIn 2 = .ok (.iload_n 2, 1) := by decide +kernel
theorem dL_alarmIn_3 : decode cL_alarmIn 3 = .ok (.invokevirtual 80, 3) := by decide +kernel
theorem dL_alarmIn_6 : decode cL_alarmIn 6 = .ok (.istore_n 3, 1) := by decide +kernel
theorem dL_alarmIn_7 : decode cL_alarmIn 7 = .ok (.goto 15, 3) := by decide +kernel
theorem dL_alarmIn_10 : decode cL_alarmIn 10 = .ok (.astore 4, 2) := by decide +kernel
theorem dL_alarmIn_12 : decode cL_alarmIn 12 = .ok (.sipush (-2053), 3) := by decide +kernel
theorem dL_alarmIn_15 : decode cL_alarmIn 15 = .ok (.ireturn, 1) := by decide +kernel
theorem dL_alarmIn_16 : decode cL_alarmIn 16 = .ok (.astore 4, 2) := by decide +kernel
theorem dL_alarmIn_18 : decode cL_alarmIn 18 = .ok (.sipush (-2051), 3) := by decide +kernel
theorem dL_alarmIn_21 : decode cL_alarmIn 21 = .ok (.ireturn, 1) := by decide +kernel
theorem dL_alarmIn_22 : decode cL_alarmIn 22 = .ok (.iload_n 3, 1) := by decide +kernel
theorem dL_alarmIn_23 : decode cL_alarmIn 23 = .ok (.ireturn, 1) := by decide +kernel
set_option maxRecDepth 20000 in
theorem ggL_smokeAfter_X8_smokeAfter : GoodIn wsL_smokeAfter wsX8_smokeAfter := goodIn_ca (goodIn_ca (goodIn_r _ [7, 8, 9, 10, 11, 12, 13, 14, 15, 16, 17, 18, 19, 20, 21, 22, 23, 6, 24, 25, 26, 27, 28, 29, 30, 31, 32, 33, 34, 35, 36, 37, 38, 39, 40, 41, 42, 43, 44, 45, 46, 47, 48, 49, 50, 51, 52, 53, 54, 55, 56, 57, 58, 59, 60, 61, 62, 63, 64, 65, 66, 67, 68, 69, 70, 71, 72, 73, 74, 75, 76, 77, 78, 79, 80, 81, 82, 83, 84, 85, 86, 87, 88, 89, 90, 91, 92, 93, 94, 95, 96, 97, 98, 99, 100, 101, 102, 103, 104, 105, 106, 107, 108, 109, 110, 111, 112, 113, 114, 115, 116, 117, 118, 119, 120, 121, 122, 123, 124, 125, 126, 127, 128, 129, 130, 131, 132, 133, 134, 135, 136, 137, 138, 139, 140, 141, 142, 143, 144, 145, 146, 147, 148, 149, 150, 151, 152, 153, 154, 155, 156, 157, 158, 159, 160, 161, 162, 163, 164, 165, 166, 167, 168, 169, 170, 171, 172, 173, 174, 175, 176, 177, 178, 179, 180, 181, 182, 183, 184, 185, 186, 187, 188, 189, 190, 191, 192, 193, 194, 195, 196, 197, 198, 199, 200, 201, 202, 203, 204, 205, 206, 207, 208, 209, 210, 211, 212, 213, 214, 215, 216, 217, 218, 219, 220, 221, 222, 223, 224, 225, 226, 227, 228, 229, 230, 231, 232, 233, 234, 235, 236, 237, 238, 239, 240, 241, 242, 243, 244, 245, 246, 247, 248, 249, 250, 251, 252, 253, 254, 255, 256, 257, 258, 259, 260, 261, 262, 263, 264, 265, 266, 267, 268, 269, 270, 271, 272, 273, 274, 275, 276, 277, 278, 279, 280, 281, 282, 283, 284, 285, 286, 287, 288, 289, 290, 291, 292, 293, 294, 295, 296, 297, 298, 299, 300, 301, 302, 303, 304, 305, 306, 307, 308, 309, 310, 311, 312, 313, 314] (by decide +kernel) (by decide +kernel)) (goodIn_sub (fun _ h => List.mem_cons_of_mem _ (List.mem_append_left _ (List.mem_append_right _ h))) (by decide +kernel))) (goodIn_sub (fun _ h => List.mem_cons_of_mem _ (List.mem_append_right _ h)) (by decide +kernel))
set_option maxRecDepth 20000 in
theorem gL_smokeAfter_X8_smokeAfter : GoodIn wsL_smokeAfter (wsV RL 83 RX8 yX8_smokeAfter wsX8_smokeAfter) := goodIn_app (goodIn_of _ (by decide +kernel)) ggL_smokeAfter_X8_smokeAfter
theorem dL_smokeAfter_0 : decode cL_smokeAfter 0 = .ok (.aload_n 0, 1) := by decide +kernel
theorem dL_smokeAfter_1 : decode cL_smokeAfter 1 = .ok (.iload_n 1, 1) := by decide +kernel
theorem dL_smokeAfter_2 : decode cL_smokeAfter 2 = .ok (.iload_n 2, 1) := by decide +kernel
theorem dL_smokeAfter_3 : decode cL_smokeAfter 3 = .ok (.invokevirtual 83, 3) := by decide +kernel
theorem dL_smokeAfter_6 : decode cL_smokeAfter 6 = .ok (.istore_n 3, 1) := by decide +kernel
theorem dL_smokeAfter_7 : decode cL_smokeAfter 7 = .ok (.goto 15, 3) := by decide +kernel
theorem dL_smokeAfter_10 : decode cL_smokeAfter 10 = .ok (.astore 4, 2) := by decide +kernel
theorem dL_smokeAfter_12 : decode cL_smokeAfter 12 = .ok (.sipush (-2053), 3) := by decide +kernel
theorem dL_smokeAfter_15 : decode cL_smokeAfter 15 = .ok (.ireturn, 1) := by decide +kernel
theorem dL_smokeAfter_16 : decode cL_smokeAfter 16 = .ok (.astore 4, 2) := by decide +kernel
theorem dL_smokeAfter_18 : decode cL_smokeAfter 18 = .ok (.sipush (-2051), 3) := by decide +kernel
theorem dL_smokeAfter_21 : decode cL_smokeAfter 21 = .ok (.ireturn, 1) := by decide +kernel
theorem dL_smokeAfter_22 : decode cL_smokeAfter 22 = .ok (.iload_n 3, 1) := by decide +kernel
theorem dL_smokeAfter_23 : decode cL_smokeAfter 23 = .ok (.ireturn, 1) := by decide +kernel
set_option maxRecDepth 20000 in
theorem ggL_peak_X8_peak : GoodIn wsL_peak wsX8_peak := goodIn_ca (goodIn_ca (goodIn_r _ [7, 8, 9, 10, 11, 12, 13, 14, 15, 16, 17, 18, 19, 20, 21, 6, 22, 23, 24, 25, 26, 27, 28, 29, 30, 31, 32, 33, 34, 35, 36, 37, 38, 39, 40, 41, 42, 43, 44, 45, 46, 47, 48, 49, 50, 51, 52, 53, 54, 55, 56, 57, 58, 59, 60, 61, 62, 63, 64, 65, 66, 67, 68, 69, 70, 71, 72, 73, 74, 75, 76, 77, 78, 79, 80, 81, 82, 83, 84, 85, 86, 87, 88, 89, 90, 91, 92, 93, 94, 95, 96, 97, 98, 99, 100, 101, 102, 103, 104, 105, 106, 107, 108, 109, 110, 111, 112, 113, 114, 115, 116, 117, 118, 119, 120, 121, 122, 123, 124, 125, 126, 127, 128, 129, 130, 131, 132, 133, 134, 135, 136, 137, 138, 139, 140, 141, 142, 143, 144, 145, 146, 147, 148, 149, 150, 151, 152, 153, 154, 155, 156, 157, 158, 159, 160, 161, 162, 163, 164, 165, 166, 167, 168, 169, 170, 171, 172, 173, 174, 175, 176, 177, 178, 179, 180, 181, 182, 183, 184, 185, 186, 187, 188, 189, 190, 191, 192, 193, 194, 195, 196, 197, 198, 199, 200, 201, 202, 203, 204, 205, 206, 207, 208, 209, 210, 211, 212, 213, 214, 215, 216, 217, 218, 219, 220, 221, 222, 223, 224, 225, 226, 227, 228, 229, 230, 231, 232, 233, 234, 235, 236, 237, 238, 239, 240, 241, 242, 243, 244, 245, 246, 247, 248, 249, 250, 251, 252, 253, 254, 255, 256, 257, 258, 259, 260, 261, 262, 263, 264, 265, 266, 267, 268, 269, 270, 271, 272, 273, 274, 275, 276, 277, 278, 279, 280, 281, 282, 283, 284, 285, 286, 287, 288, 289, 290, 291, 292, 293, 294, 295, 296, 297, 298, 299, 300, 301, 302, 303, 304, 305, 306, 307, 308, 309, 310, 311, 312, 313, 314, 315, 316, 317, 318, 319, 320, 321, 322, 323, 324, 325, 326, 327] (by decide +kernel) (by decide +kernel)) (goodIn_sub (fun _ h => List.mem_cons_of_mem _ (List.mem_append_left _ (List.mem_append_right _ h))) (by decide +kernel))) (goodIn_sub (fun _ h => List.mem_cons_of_mem _ (List.mem_append_right _ h)) (by decide +kernel))
set_option maxRecDepth 20000 in
theorem gL_peak_X8_peak : GoodIn wsL_peak (wsV RL 86 RX8 yX8_peak wsX8_peak) := goodIn_app (goodIn_of _ (by decide +kernel)) ggL_peak_X8_peak
theorem dL_peak_0 : decode cL_peak 0 = .ok (.aload_n 0, 1) := by decide +kernel
theorem dL_peak_1 : decode cL_peak 1 = .ok (.iload_n 1, 1) := by decide +kernel
theorem dL_peak_2 : decode cL_peak 2 = .ok (.iload_n 2, 1) := by decide +kernel
theorem dL_peak_3 : decode cL_peak 3 = .ok (.iload_n 3, 1) := by decide +kernel
theorem dL_peak_4 : decode cL_peak 4 = .ok (.invokevirtual 86, 3) := by decide +kernel
theorem dL_peak_7 : decode cL_peak 7 = .ok (.istore 4, 2) := by decide +kernel
theorem dL_peak_9 : decode cL_peak 9 = .ok (.goto 15, 3) := by decide +kernel
theorem dL_peak_12 : decode cL_peak 12 = .ok (.astore 5, 2) := by decide +kernel
theorem dL_peak_14 : decode cL_peak 14 = .ok (.sipush (-2053), 3) := by decide +kernel
theorem dL_peak_17 : decode cL_peak 17 = .ok (.ireturn, 1) := by decide +kernel
theorem dL_peak_18 : decode cL_peak 18 = .ok (.astore 5, 2) := by decide +kernel
theorem dL_peak_20 : decode cL_peak 20 = .ok (.sipush (-2051), 3) := by decide +kernel
theorem dL_peak_23 : decode cL_peak 23 = .ok (.ireturn, 1) := by decide +kernel
theorem dL_peak_24 : decode cL_peak 24 = .ok (.iload 4, 2) := by decide +kernel
theorem dL_peak_26 : decode cL_peak 26 = .ok (.ireturn, 1) := by decide +kernel
set_option maxRecDepth 20000 in
theorem ggL_bestOpening_X8_bestOpening : GoodIn wsL_bestOpening wsX8_bestOpening := goodIn_ca (goodIn_r _ [6, 7, 8, 9, 10, 5, 11, 12, 13, 14, 15, 16, 17, 18, 19, 20, 21, 22, 23, 24, 25, 26, 27, 28, 29, 30, 31, 32, 33, 34, 35, 36, 37, 38, 39, 40, 41, 42, 43, 44, 45, 46, 47, 48, 49, 50, 51, 52, 53, 54, 55, 56, 57, 58, 59, 60, 61, 62, 63, 64, 65, 66, 67, 68, 69, 70, 71, 72, 73, 74, 75, 76, 77, 78, 79, 80, 81, 82, 83, 84, 85, 86, 87, 88, 89, 90, 91, 92, 93, 94, 95, 96, 97, 98, 99, 100, 101, 102, 103, 104, 105, 106, 107, 108, 109, 110, 111, 112, 113, 114, 115, 116, 117, 118, 119, 120, 121, 122, 123, 124, 125, 126, 127, 128, 129, 130, 131, 132, 133, 134, 135, 136, 137, 138, 139, 140, 141, 142, 143, 144, 145, 146, 147, 148, 149, 150, 151, 152, 153, 154, 155, 156, 157, 158, 159, 160, 161, 162, 163, 164, 165, 166, 167, 168, 169, 170, 171, 172, 173, 174, 175, 176, 177, 178, 179, 180, 181, 182, 183, 184, 185, 186, 187, 188, 189, 190, 191, 192, 193, 194, 195, 196, 197, 198, 199, 200, 201, 202, 203, 204, 205, 206, 207, 208, 209, 210, 211, 212, 213, 214, 215, 216, 217, 218, 219, 220, 221, 222, 223, 224, 225, 226, 227, 228, 229, 230, 231, 232, 233, 234, 235, 236, 237, 238, 239, 240, 241, 242, 243, 244, 245, 246, 247, 248, 249, 250, 251, 252, 253, 254, 255, 256, 257, 258, 259, 260, 261, 262, 263, 264, 265, 266, 267, 268, 269, 270, 271, 272, 273, 274, 275, 276, 277, 278, 279, 280, 281, 282, 283, 284, 285, 286, 287, 288, 289, 290, 291, 292, 293, 294, 295, 296, 297, 298, 299, 300, 301, 302, 303, 304, 305, 306, 307, 308, 309, 310, 311, 312, 313, 314, 315, 316, 317, 318, 319, 320, 321, 322, 323] (by decide +kernel) (by decide +kernel)) (goodIn_sub (fun _ h => List.mem_cons_of_mem _ (List.mem_append_right _ h)) (by decide +kernel))
set_option maxRecDepth 20000 in
theorem gL_bestOpening_X8_bestOpening : GoodIn wsL_bestOpening (wsV RL 90 RX8 yX8_bestOpening wsX8_bestOpening) := goodIn_app (goodIn_of _ (by decide +kernel)) ggL_bestOpening_X8_bestOpening
theorem dL_bestOpening_0 : decode cL_bestOpening 0 = .ok (.aload_n 0, 1) := by decide +kernel
theorem dL_bestOpening_1 : decode cL_bestOpening 1 = .ok (.iload_n 1, 1) := by decide +kernel
theorem dL_bestOpening_2 : decode cL_bestOpening 2 = .ok (.invokevirtual 90, 3) := by decide +kernel
theorem dL_bestOpening_5 : decode cL_bestOpening 5 = .ok (.istore_n 2, 1) := by decide +kernel
theorem dL_bestOpening_6 : decode cL_bestOpening 6 = .ok (.goto 8, 3) := by decide +kernel
theorem dL_bestOpening_9 : decode cL_bestOpening 9 = .ok (.astore_n 3, 1) := by decide +kernel
theorem dL_bestOpening_10 : decode cL_bestOpening 10 = .ok (.sipush (-2051), 3) := by decide +kernel
theorem dL_bestOpening_13 : decode cL_bestOpening 13 = .ok (.ireturn, 1) := by decide +kernel
theorem dL_bestOpening_14 : decode cL_bestOpening 14 = .ok (.iload_n 2, 1) := by decide +kernel
theorem dL_bestOpening_15 : decode cL_bestOpening 15 = .ok (.ireturn, 1) := by decide +kernel
set_option maxRecDepth 20000 in
theorem ggL_neededSensors_X8_neededSensors : GoodIn wsL_neededSensors wsX8_neededSensors := goodIn_ca (goodIn_ca (goodIn_r _ [7, 8, 9, 10, 11, 12, 13, 14, 15, 16, 17, 18, 19, 20, 21, 22, 23, 24, 25, 6, 26, 27, 28, 29, 30, 31, 32, 33, 34, 35, 36, 37, 38, 39, 40, 41, 42, 43, 44, 45, 46, 47, 48, 49, 50, 51, 52, 53, 54, 55, 56, 57, 58, 59, 60, 61, 62, 63, 64, 65, 66, 67, 68, 69, 70, 71, 72, 73, 74, 75, 76, 77, 78, 79, 80, 81, 82, 83, 84, 85, 86, 87, 88, 89, 90, 91, 92, 93, 94, 95, 96, 97, 98, 99, 100, 101, 102, 103, 104, 105, 106, 107, 108, 109, 110, 111, 112, 113, 114, 115, 116, 117, 118, 119, 120, 121, 122, 123, 124, 125, 126, 127, 128, 129, 130, 131, 132, 133, 134, 135, 136, 137, 138, 139, 140, 141, 142, 143, 144, 145, 146, 147, 148, 149, 150, 151, 152, 153, 154, 155, 156, 157, 158, 159, 160, 161, 162, 163, 164, 165, 166, 167, 168, 169, 170, 171, 172, 173, 174, 175, 176, 177, 178, 179, 180, 181, 182, 183, 184, 185, 186, 187, 188, 189, 190, 191, 192, 193, 194, 195, 196, 197, 198, 199, 200, 201, 202, 203, 204, 205, 206, 207, 208, 209, 210, 211, 212, 213, 214, 215, 216, 217, 218, 219, 220, 221, 222, 223, 224, 225, 226, 227, 228, 229, 230, 231, 232, 233, 234, 235, 236, 237, 238, 239, 240, 241, 242, 243, 244, 245, 246, 247, 248, 249, 250, 251, 252, 253, 254, 255, 256, 257, 258, 259, 260, 261, 262, 263, 264, 265, 266, 267, 268, 269, 270, 271, 272, 273, 274, 275, 276, 277, 278, 279, 280, 281, 282, 283, 284, 285, 286, 287, 288, 289, 290, 291, 292, 293, 294, 295, 296, 297, 298, 299, 300, 301, 302, 303, 304, 305, 306, 307, 308, 309, 310, 311, 312, 313, 314, 315, 316, 317, 318, 319, 320, 321, 322] (by decide +kernel) (by decide +kernel)) (goodIn_sub (fun _ h => List.mem_cons_of_mem _ (List.mem_append_left _ (List.mem_append_right _ h))) (by decide +kernel))) (goodIn_sub (fun _ h => List.mem_cons_of_mem _ (List.mem_append_right _ h)) (by decide +kernel))
set_option maxRecDepth 20000 in
theorem gL_neededSensors_X8_neededSensors : GoodIn wsL_neededSensors (wsV RL 93 RX8 yX8_neededSensors wsX8_neededSensors) := goodIn_app (goodIn_of _ (by decide +kernel)) ggL_neededSensors_X8_neededSensors
theorem dL_neededSensors_0 : decode cL_neededSensors 0 = .ok (.aload_n 0, 1) := by decide +kernel
theorem dL_neededSensors_1 : decode cL_neededSensors 1 = .ok (.iload_n 1, 1) := by decide +kernel
theorem dL_neededSensors_2 : decode cL_neededSensors 2 = .ok (.iload_n 2, 1) := by decide +kernel
theorem dL_neededSensors_3 : decode cL_neededSensors 3 = .ok (.invokevirtual 93, 3) := by decide +kernel
theorem dL_neededSensors_6 : decode cL_neededSensors 6 = .ok (.istore_n 3, 1) := by decide +kernel
theorem dL_neededSensors_7 : decode cL_neededSensors 7 = .ok (.goto 15, 3) := by decide +kernel
theorem dL_neededSensors_10 : decode cL_neededSensors 10 = .ok (.astore 4, 2) := by decide +kernel
theorem dL_neededSensors_12 : decode cL_neededSensors 12 = .ok (.sipush (-2053), 3) := by decide +kernel
theorem dL_neededSensors_15 : decode cL_neededSensors 15 = .ok (.ireturn, 1) := by decide +kernel
theorem dL_neededSensors_16 : decode cL_neededSensors 16 = .ok (.astore 4, 2) := by decide +kernel
theorem dL_neededSensors_18 : decode cL_neededSensors 18 = .ok (.sipush (-2051), 3) := by decide +kernel
theorem dL_neededSensors_21 : decode cL_neededSensors 21 = .ok (.ireturn, 1) := by decide +kernel
theorem dL_neededSensors_22 : decode cL_neededSensors 22 = .ok (.iload_n 3, 1) := by decide +kernel
theorem dL_neededSensors_23 : decode cL_neededSensors 23 = .ok (.ireturn, 1) := by decide +kernel
set_option maxRecDepth 20000 in
theorem ggL_burnsFor_X8_burnsFor : GoodIn wsL_burnsFor wsX8_burnsFor := goodIn_ca (goodIn_r _ [6, 7, 8, 9, 10, 11, 12, 13, 14, 5, 15, 16, 17, 18, 19, 20, 21, 22, 23, 24, 25, 26, 27, 28, 29, 30, 31, 32, 33, 34, 35, 36, 37, 38, 39, 40, 41, 42, 43, 44, 45, 46, 47, 48, 49, 50, 51, 52, 53, 54, 55, 56, 57, 58, 59, 60, 61, 62, 63, 64, 65, 66, 67, 68, 69, 70, 71, 72, 73, 74, 75, 76, 77, 78, 79, 80, 81, 82, 83, 84, 85, 86, 87, 88, 89, 90, 91, 92, 93, 94, 95, 96, 97, 98, 99, 100, 101, 102, 103, 104, 105, 106, 107, 108, 109, 110, 111, 112, 113, 114, 115, 116, 117, 118, 119, 120, 121, 122, 123, 124, 125, 126, 127, 128, 129, 130, 131, 132, 133, 134, 135, 136, 137, 138, 139, 140, 141, 142, 143, 144, 145, 146, 147, 148, 149, 150, 151, 152, 153, 154, 155, 156, 157, 158, 159, 160, 161, 162, 163, 164, 165, 166, 167, 168, 169, 170, 171, 172, 173, 174, 175, 176, 177, 178, 179, 180, 181, 182, 183, 184, 185, 186, 187, 188, 189, 190, 191, 192, 193, 194, 195, 196, 197, 198, 199, 200, 201, 202, 203, 204, 205, 206, 207, 208, 209, 210, 211, 212, 213, 214, 215, 216, 217, 218, 219, 220, 221, 222, 223, 224, 225, 226, 227, 228, 229, 230, 231, 232, 233, 234, 235, 236, 237, 238, 239, 240, 241, 242, 243, 244, 245, 246, 247, 248, 249, 250, 251, 252, 253, 254, 255, 256, 257, 258, 259, 260, 261, 262, 263, 264, 265, 266, 267, 268, 269, 270, 271, 272, 273, 274, 275, 276, 277, 278, 279, 280, 281, 282, 283, 284, 285, 286, 287, 288, 289, 290, 291, 292, 293, 294, 295, 296, 297, 298, 299, 300, 301, 302, 303, 304, 305, 306, 307, 308, 309, 310] (by decide +kernel) (by decide +kernel)) (goodIn_sub (fun _ h => List.mem_cons_of_mem _ (List.mem_append_right _ h)) (by decide +kernel))
set_option maxRecDepth 20000 in
theorem gL_burnsFor_X8_burnsFor : GoodIn wsL_burnsFor (wsV RL 96 RX8 yX8_burnsFor wsX8_burnsFor) := goodIn_app (goodIn_of _ (by decide +kernel)) ggL_burnsFor_X8_burnsFor
theorem dL_burnsFor_0 : decode cL_burnsFor 0 = .ok (.aload_n 0, 1) := by decide +kernel
theorem dL_burnsFor_1 : decode cL_burnsFor 1 = .ok (.iload_n 1, 1) := by decide +kernel
theorem dL_burnsFor_2 : decode cL_burnsFor 2 = .ok (.invokevirtual 96, 3) := by decide +kernel
theorem dL_burnsFor_5 : decode cL_burnsFor 5 = .ok (.istore_n 2, 1) := by decide +kernel
theorem dL_burnsFor_6 : decode cL_burnsFor 6 = .ok (.goto 8, 3) := by decide +kernel
theorem dL_burnsFor_9 : decode cL_burnsFor 9 = .ok (.astore_n 3, 1) := by decide +kernel
theorem dL_burnsFor_10 : decode cL_burnsFor 10 = .ok (.sipush (-2051), 3) := by decide +kernel
theorem dL_burnsFor_13 : decode cL_burnsFor 13 = .ok (.ireturn, 1) := by decide +kernel
theorem dL_burnsFor_14 : decode cL_burnsFor 14 = .ok (.iload_n 2, 1) := by decide +kernel
theorem dL_burnsFor_15 : decode cL_burnsFor 15 = .ok (.ireturn, 1) := by decide +kernel
set_option maxRecDepth 20000 in
theorem ggL_undo_X8_undo : GoodIn wsL_undo wsX8_undo := goodIn_ca (goodIn_r _ [6, 7, 8, 9, 10, 11, 12, 13, 14, 15, 16, 17, 18, 19, 20, 21, 22, 23, 24, 25, 26, 27, 28, 29, 30, 31, 32, 33, 34, 35, 36, 37, 38, 39, 40, 41, 42, 43, 44, 45, 5, 46, 47, 48, 49, 50, 51, 52, 53, 54, 55, 56, 57, 58, 59, 60, 61, 62, 63, 64, 65, 66, 67, 68, 69, 70, 71, 72, 73, 74, 75, 76, 77, 78, 79, 80, 81, 82, 83, 84, 85, 86, 87, 88, 89, 90, 91, 92, 93, 94, 95, 96, 97, 98, 99, 100, 101, 102, 103, 104, 105, 106, 107, 108, 109, 110, 111, 112, 113, 114, 115, 116, 117, 118, 119, 120, 121, 122, 123, 124, 125, 126, 127, 128, 129, 130, 131, 132, 133, 134, 135, 136, 137, 138, 139, 140, 141, 142, 143, 144, 145, 146, 147, 148, 149, 150, 151, 152, 153] (by decide +kernel) (by decide +kernel)) (goodIn_sub (fun _ h => List.mem_cons_of_mem _ (List.mem_append_right _ h)) (by decide +kernel))
set_option maxRecDepth 20000 in
theorem gL_undo_X8_undo : GoodIn wsL_undo (wsV RL 99 RX8 yX8_undo wsX8_undo) := goodIn_app (goodIn_of _ (by decide +kernel)) ggL_undo_X8_undo
theorem dL_undo_0 : decode cL_undo 0 = .ok (.aload_n 0, 1) := by decide +kernel
theorem dL_undo_1 : decode cL_undo 1 = .ok (.invokevirtual 99, 3) := by decide +kernel
theorem dL_undo_4 : decode cL_undo 4 = .ok (.istore_n 1, 1) := by decide +kernel
theorem dL_undo_5 : decode cL_undo 5 = .ok (.goto 8, 3) := by decide +kernel
theorem dL_undo_8 : decode cL_undo 8 = .ok (.astore_n 2, 1) := by decide +kernel
theorem dL_undo_9 : decode cL_undo 9 = .ok (.sipush (-2052), 3) := by decide +kernel
theorem dL_undo_12 : decode cL_undo 12 = .ok (.ireturn, 1) := by decide +kernel
theorem dL_undo_13 : decode cL_undo 13 = .ok (.iload_n 1, 1) := by decide +kernel
theorem dL_undo_14 : decode cL_undo 14 = .ok (.ireturn, 1) := by decide +kernel
