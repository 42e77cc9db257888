set_option maxRecDepth 20000 in
theorem ggX8_init_X7_init : GoodIn wsX8_init wsX7_init := goodIn_r _ [14, 15, 2, 3, 16, 17, 18, 19, 20, 21, 22, 23, 24, 25, 26, 27, 28, 29, 30, 31, 32, 33, 34, 35, 36, 37, 38, 39, 40, 41, 42, 43, 44, 45, 46, 47, 48, 49, 50, 51, 52, 53, 54, 55, 56, 57, 58, 59, 60, 61, 62, 63, 64, 65, 66, 67, 68, 69, 70, 71, 72, 73, 74, 75, 76, 77, 78, 79, 80, 81, 82, 83, 104, 105, 106, 107, 90, 91, 92, 93, 94, 95, 96, 97, 108, 109, 110, 111, 112, 113, 114, 115, 116, 117, 118, 119, 120, 121, 122, 123, 124, 125, 126, 127, 128, 129, 130, 131, 132, 133, 134, 135] (by decide +kernel) (by decide +kernel)
set_option maxRecDepth 20000 in
theorem gX8_init_X7_init_n9 : GoodIn wsX8_init (wsX7_init) := ggX8_init_X7_init
set_option maxRecDepth 20000 in
theorem ggX8_init_X4_init : GoodIn wsX8_init wsX4_init := goodIn_r _ [86, 87, 2, 3, 88, 89, 5, 6, 13, 14, 15, 16, 17, 18, 19, 20, 21, 22, 23, 24, 25, 26, 27, 28, 29, 30, 31, 32, 33, 34, 35, 36, 37, 38, 39, 40, 41, 42, 43, 44, 45, 46, 47, 48, 49, 50, 51, 52, 53, 54, 55, 56, 57, 58, 59, 60, 61, 62, 63, 64, 65, 66, 67, 68, 69, 70, 71, 72, 73, 74, 75, 76, 77, 78, 79, 80, 81, 82, 83, 101, 102, 103, 90, 91, 92, 93, 94, 95, 96, 97, 104, 105, 106, 107, 108, 109, 110, 111, 112, 113, 114, 115, 116, 117, 118, 119, 120, 121, 122, 123, 124, 125, 126, 127, 128, 129, 130, 131, 132, 133, 134, 135] (by decide +kernel) (by decide +kernel)
set_option maxRecDepth 20000 in
theorem gX8_init_X4_init : GoodIn wsX8_init (wsX4_init) := ggX8_init_X4_init
theorem dX8_init_0 : decode cX8_init 0 = .ok (.aload_n 0, 1) := by decide +kernel
theorem dX8_init_1 : decode cX8_init 1 = .ok (.invokespecial 1, 3) := by decide +kernel
theorem dX8_init_4 : decode cX8_init 4 = .ok (.aload_n 0, 1) := by decide +kernel
theorem dX8_init_5 : decode cX8_init 5 = .ok (.new 7, 3) := by decide +kernel
theorem dX8_init_8 : decode cX8_init 8 = .ok (.dup, 1) := by decide +kernel
theorem dX8_init_9 : decode cX8_init 9 = .ok (.invokespecial 9, 3) := by decide +kernel
theorem dX8_init_12 : decode cX8_init 12 = .ok (.putfield 10, 3) := by decide +kernel
theorem dX8_init_15 : decode cX8_init 15 = .ok (.aload_n 0, 1) := by decide +kernel
theorem dX8_init_16 : decode cX8_init 16 = .ok (.new 7, 3) := by decide +kernel
theorem dX8_init_19 : decode cX8_init 19 = .ok (.dup, 1) := by decide +kernel
theorem dX8_init_20 : decode cX8_init 20 = .ok (.invokespecial 9, 3) := by decide +kernel
theorem dX8_init_23 : decode cX8_init 23 = .ok (.putfield 16, 3) := by decide +kernel
theorem dX8_init_26 : decode cX8_init 26 = .ok (.aload_n 0, 1) := by decide +kernel
theorem dX8_init_27 : decode cX8_init 27 = .ok (.new 19, 3) := by decide +kernel
theorem dX8_init_30 : decode cX8_init 30 = .ok (.dup, 1) := by decide +kernel
theorem dX8_init_31 : decode cX8_init 31 = .ok (.invokespecial 21, 3) := by decide +kernel
theorem dX8_init_34 : decode cX8_init 34 = .ok (.putfield 22, 3) := by decide +kernel
theorem dX8_init_37 : decode cX8_init 37 = .ok (.return_, 1) := by decide +kernel
set_option maxRecDepth 20000 in
theorem ggX8_begin_X8_isWithin : GoodIn wsX8_begin wsX8_isWithin := goodIn_r _ [10] (by decide +kernel) (by decide +kernel)
set_option maxRecDepth 20000 in
theorem gX8_begin_X8_isWithin : GoodIn wsX8_begin (va_wsS RX8 26 yX8_isWithin wsX8_isWithin) := goodIn_app (goodIn_of _ (by decide +kernel)) ggX8_begin_X8_isWithin
set_option maxRecDepth 20000 in
theorem ggX8_begin_X4_keep : GoodIn wsX8_begin wsX4_keep := goodIn_r _ [15, 16, 17, 18, 19, 20, 14, 21, 22, 23, 24, 25, 26, 27, 28, 29, 30, 31, 32, 33, 34, 35, 36, 37, 38, 39, 40, 41, 42, 43, 44, 9, 45, 46, 47, 48, 49, 50, 51, 52, 53, 54, 55, 56, 57, 58, 59, 60, 61, 62, 63, 64, 65, 66, 67, 68, 69, 70, 71, 72, 73, 74, 75, 76, 77, 78, 79, 80, 81, 82, 83, 84, 85, 86, 87, 88, 89, 90, 91, 92, 93, 94, 95, 96, 97, 98, 99, 100, 101, 102, 103, 104, 105, 106, 150, 151, 152, 138, 139, 140, 141, 142, 143, 144, 145, 146, 147, 148, 149, 153, 154, 155, 156, 157, 158, 159, 160, 161, 162, 163, 164, 165, 166, 167, 168, 169, 170, 171, 172, 173, 174, 175, 176, 177, 178, 179, 180] (by decide +kernel) (by decide +kernel)
set_option maxRecDepth 20000 in
theorem gX8_begin_X4_keep : GoodIn wsX8_begin (wsV RX8 47 RX4 yX4_keep wsX4_keep) := goodIn_app (goodIn_of _ (by decide +kernel)) ggX8_begin_X4_keep
set_option maxRecDepth 20000 in
theorem ggX8_begin_X7_startAnew : GoodIn wsX8_begin wsX7_startAnew := goodIn_r _ [110, 28, 29, 30, 31, 32, 33, 34, 35, 111, 112, 113, 39, 114, 41, 42, 43, 115, 116, 117, 57, 118, 59, 60, 61, 62, 63, 64, 119, 120, 121, 68, 122, 70, 123, 124, 125, 81, 126, 83, 84, 85, 86, 127, 128, 129, 90, 130, 92, 131, 132, 133, 100, 134, 102, 138, 139, 140, 141, 142, 143, 144, 145, 146, 147, 148, 149, 153, 154, 155, 156, 157, 158, 159, 160, 161, 162, 163, 164, 165, 166, 167, 168, 169, 170, 171, 172, 173, 174, 175, 176, 177, 178, 179, 180] (by decide +kernel) (by decide +kernel)
set_option maxRecDepth 20000 in
theorem gX8_begin_X7_startAnew : GoodIn wsX8_begin (wsV RX8 51 RX7 yX7_startAnew wsX7_startAnew) := goodIn_app (goodIn_of _ (by decide +kernel)) ggX8_begin_X7_startAnew
theorem dX8_begin_0 : decode cX8_begin 0 = .ok (.iload_n 1, 1) := by decide +kernel
theorem dX8_begin_1 : decode cX8_begin 1 = .ok (.iconst 1, 1) := by decide +kernel
theorem dX8_begin_2 : decode cX8_begin 2 = .ok (.iconst 4, 1) := by decide +kernel
theorem dX8_begin_3 : decode cX8_begin 3 = .ok (.invokestatic 26, 3) := by decide +kernel
theorem dX8_begin_6 : decode cX8_begin 6 = .ok (.ifCond .ne 13, 3) := by decide +kernel
theorem dX8_begin_9 : decode cX8_begin 9 = .ok (.new 30, 3) := by decide +kernel
theorem dX8_begin_12 : decode cX8_begin 12 = .ok (.dup, 1) := by decide +kernel
theorem dX8_begin_13 : decode cX8_begin 13 = .ok (.ldc 32, 2) := by decide +kernel
theorem dX8_begin_15 : decode cX8_begin 15 = .ok (.invokespecial 34, 3) := by decide +kernel
theorem dX8_begin_18 : decode cX8_begin 18 = .ok (.athrow, 1) := by decide +kernel
theorem dX8_begin_19 : decode cX8_begin 19 = .ok (.aload_n 0, 1) := by decide +kernel
theorem dX8_begin_20 : decode cX8_begin 20 = .ok (.getfield 10, 3) := by decide +kernel
theorem dX8_begin_23 : decode cX8_begin 23 = .ok (.getfield 37, 3) := by decide +kernel
theorem dX8_begin_26 : decode cX8_begin 26 = .ok (.getfield 41, 3) := by decide +kernel
theorem dX8_begin_29 : decode cX8_begin 29 = .ok (.istore_n 2, 1) := by decide +kernel
theorem dX8_begin_30 : decode cX8_begin 30 = .ok (.aload_n 0, 1) := by decide +kernel
theorem dX8_begin_31 : decode cX8_begin 31 = .ok (.getfield 22, 3) := by decide +kernel
theorem dX8_begin_34 : decode cX8_begin 34 = .ok (.aload_n 0, 1) := by decide +kernel
theorem dX8_begin_35 : decode cX8_begin 35 = .ok (.getfield 10, 3) := by decide +kernel
theorem dX8_begin_38 : decode cX8_begin 38 = .ok (.invokevirtual 47, 3) := by decide +kernel
theorem dX8_begin_41 : decode cX8_begin 41 = .ok (.aload_n 0, 1) := by decide +kernel
theorem dX8_begin_42 : decode cX8_begin 42 = .ok (.getfield 10, 3) := by decide +kernel
theorem dX8_begin_45 : decode cX8_begin 45 = .ok (.iload_n 1, 1) := by decide +kernel
theorem dX8_begin_46 : decode cX8_begin 46 = .ok (.invokevirtual 51, 3) := by decide +kernel
theorem dX8_begin_49 : decode cX8_begin 49 = .ok (.iload_n 2, 1) := by decide +kernel
theorem dX8_begin_50 : decode cX8_begin 50 = .ok (.ireturn, 1) := by decide +kernel
set_option maxRecDepth 20000 in
theorem ggX8_setDoor_X3_isPlace : GoodIn wsX8_setDoor wsX3_isPlace := goodIn_r _ [12, 13, 131, 132, 133, 134] (by decide +kernel) (by decide +kernel)
set_option maxRecDepth 20000 in
theorem gX8_setDoor_X3_isPlace : GoodIn wsX8_setDoor (wsV RX8 55 RX3 yX3_isPlace wsX3_isPlace) := goodIn_app (goodIn_of _ (by decide +kernel)) ggX8_setDoor_X3_isPlace
set_option maxRecDepth 20000 in
theorem ggX8_setDoor_X3_hasOpenDoor : GoodIn wsX8_setDoor wsX3_hasOpenDoor := goodIn_r _ [17, 18, 19, 20, 11, 21, 131, 132, 133, 134] (by decide +kernel) (by decide +kernel)
set_option maxRecDepth 20000 in
theorem gX8_setDoor_X3_hasOpenDoor : GoodIn wsX8_setDoor (wsV RX8 66 RX3 yX3_hasOpenDoor wsX3_hasOpenDoor) := goodIn_app (goodIn_of _ (by decide +kernel)) ggX8_setDoor_X3_hasOpenDoor
set_option maxRecDepth 20000 in
theorem ggX8_setDoor_X4_keep : GoodIn wsX8_setDoor wsX4_keep := goodIn_r _ [26, 27, 28, 29, 30, 31, 25, 32, 33, 34, 35, 36, 37, 38, 39, 40, 41, 42, 43, 44, 45, 46, 47, 48, 49, 11, 50, 13, 18, 51, 52, 53, 54, 55, 56, 57, 58, 59, 60, 61, 62, 63, 64, 65, 66, 67, 68, 69, 70, 71, 72, 73, 74, 75, 76, 77, 78, 79, 80, 81, 82, 83, 84, 85, 86, 87, 88, 89, 90, 91, 92, 93, 94, 95, 96, 97, 98, 99, 100, 101, 102, 103, 104, 105, 106, 107, 108, 109, 110, 111, 112, 113, 114, 115, 135, 136, 137, 123, 124, 125, 126, 127, 128, 129, 130, 131, 132, 133, 134, 138, 139, 140, 141, 142, 143, 144, 145, 146, 147, 148, 149, 150, 151, 152, 153, 154, 155, 156, 157, 158, 159, 160, 161, 162, 163, 164, 165] (by decide +kernel) (by decide +kernel)
set_option maxRecDepth 20000 in
theorem gX8_setDoor_X4_keep : GoodIn wsX8_setDoor (wsV RX8 47 RX4 yX4_keep wsX4_keep) := goodIn_app (goodIn_of _ (by decide +kernel)) ggX8_setDoor_X4_keep
set_option maxRecDepth 20000 in
theorem ggX8_setDoor_X3_putDoor : GoodIn wsX8_setDoor wsX3_putDoor := goodIn_r _ [119, 18, 19, 20, 11, 21, 131, 132, 133, 134] (by decide +kernel) (by decide +kernel)
set_option maxRecDepth 20000 in
theorem gX8_setDoor_X3_putDoor : GoodIn wsX8_setDoor (wsV RX8 70 RX3 yX3_putDoor wsX3_putDoor) := goodIn_app (goodIn_of _ (by decide +kernel)) ggX8_setDoor_X3_putDoor
theorem dX8_setDoor_0 : decode cX8_setDoor 0 = .ok (.aload_n 0, 1) := by decide +kernel
theorem dX8_setDoor_1 : decode cX8_setDoor 1 = .ok (.getfield 10, 3) := by decide +kernel
theorem dX8_setDoor_4 : decode cX8_setDoor 4 = .ok (.getfield 37, 3) := by decide +kernel
theorem dX8_setDoor_7 : decode cX8_setDoor 7 = .ok (.iload_n 1, 1) := by decide +kernel
theorem dX8_setDoor_8 : decode cX8_setDoor 8 = .ok (.invokevirtual 55, 3) := by decide +kernel
theorem dX8_setDoor_11 : decode cX8_setDoor 11 = .ok (.ifCond .eq 17, 3) := by decide +kernel
theorem dX8_setDoor_14 : decode cX8_setDoor 14 = .ok (.aload_n 0, 1) := by decide +kernel
theorem dX8_setDoor_15 : decode cX8_setDoor 15 = .ok (.getfield 10, 3) := by decide +kernel
theorem dX8_setDoor_18 : decode cX8_setDoor 18 = .ok (.getfield 37, 3) := by decide +kernel
theorem dX8_setDoor_21 : decode cX8_setDoor 21 = .ok (.iload_n 2, 1) := by decide +kernel
theorem dX8_setDoor_22 : decode cX8_setDoor 22 = .ok (.invokevirtual 55, 3) := by decide +kernel
theorem dX8_setDoor_25 : decode cX8_setDoor 25 = .ok (.ifCond .ne 13, 3) := by decide +kernel
theorem dX8_setDoor_28 : decode cX8_setDoor 28 = .ok (.new 59, 3) := by decide +kernel
theorem dX8_setDoor_31 : decode cX8_setDoor 31 = .ok (.dup, 1) := by decide +kernel
theorem dX8_setDoor_32 : decode cX8_setDoor 32 = .ok (.ldc 61, 2) := by decide +kernel
theorem dX8_setDoor_34 : decode cX8_setDoor 34 = .ok (.invokespecial 63, 3) := by decide +kernel
theorem dX8_setDoor_37 : decode cX8_setDoor 37 = .ok (.athrow, 1) := by decide +kernel
theorem dX8_setDoor_38 : decode cX8_setDoor 38 = .ok (.iload_n 1, 1) := by decide +kernel
theorem dX8_setDoor_39 : decode cX8_setDoor 39 = .ok (.iload_n 2, 1) := by decide +kernel
theorem dX8_setDoor_40 : decode cX8_setDoor 40 = .ok (.if_icmp .ne 13, 3) := by decide +kernel
theorem dX8_setDoor_43 : decode cX8_setDoor 43 = .ok (.new 30, 3) := by decide +kernel
theorem dX8_setDoor_46 : decode cX8_setDoor 46 = .ok (.dup, 1) := by decide +kernel
theorem dX8_setDoor_47 : decode cX8_setDoor 47 = .ok (.ldc 64, 2) := by decide +kernel
theorem dX8_setDoor_49 : decode cX8_setDoor 49 = .ok (.invokespecial 34, 3) := by decide +kernel
theorem dX8_setDoor_52 : decode cX8_setDoor 52 = .ok (.athrow, 1) := by decide +kernel
theorem dX8_setDoor_53 : decode cX8_setDoor 53 = .ok (.aload_n 0, 1) := by decide +kernel
theorem dX8_setDoor_54 : decode cX8_setDoor 54 = .ok (.getfield 10, 3) := by decide +kernel
theorem dX8_setDoor_57 : decode cX8_setDoor 57 = .ok (.getfield 37, 3) := by decide +kernel
theorem dX8_setDoor_60 : decode cX8_setDoor 60 = .ok (.iload_n 1, 1) := by decide +kernel
theorem dX8_setDoor_61 : decode cX8_setDoor 61 = .ok (.iload_n 2, 1) := by decide +kernel
theorem dX8_setDoor_62 : decode cX8_setDoor 62 = .ok (.invokevirtual 66, 3) := by decide +kernel
theorem dX8_setDoor_65 : decode cX8_setDoor 65 = .ok (.istore 4, 2) := by decide +kernel
theorem dX8_setDoor_67 : decode cX8_setDoor 67 = .ok (.aload_n 0, 1) := by decide +kernel
theorem dX8_setDoor_68 : decode cX8_setDoor 68 = .ok (.getfield 22, 3) := by decide +kernel
theorem dX8_setDoor_71 : decode cX8_setDoor 71 = .ok (.aload_n 0, 1) := by decide +kernel
theorem dX8_setDoor_72 : decode cX8_setDoor 72 = .ok (.getfield 10, 3) := by decide +kernel
theorem dX8_setDoor_75 : decode cX8_setDoor 75 = .ok (.invokevirtual 47, 3) := by decide +kernel
theorem dX8_setDoor_78 : decode cX8_setDoor 78 = .ok (.aload_n 0, 1) := by decide +kernel
theorem dX8_setDoor_79 : decode cX8_setDoor 79 = .ok (.getfield 10, 3) := by decide +kernel
theorem dX8_setDoor_82 : decode cX8_setDoor 82 = .ok (.getfield 37, 3) := by decide +kernel
theorem dX8_setDoor_85 : decode cX8_setDoor 85 = .ok (.iload_n 1, 1) := by decide +kernel
theorem dX8_setDoor_86 : decode cX8_setDoor 86 = .ok (.iload_n 2, 1) := by decide +kernel
theorem dX8_setDoor_87 : decode cX8_setDoor 87 = .ok (.iload_n 3, 1) := by decide +kernel
theorem dX8_setDoor_88 : decode cX8_setDoor 88 = .ok (.invokevirtual 70, 3) := by decide +kernel
theorem dX8_setDoor_91 : decode cX8_setDoor 91 = .ok (.iload 4, 2) := by decide +kernel
theorem dX8_setDoor_93 : decode cX8_setDoor 93 = .ok (.ireturn, 1) := by decide +kernel
set_option maxRecDepth 20000 in
theorem ggX8_isOpen_X3_isPlace : GoodIn wsX8_isOpen wsX3_isPlace := goodIn_r _ [9, 10, 30, 31, 32, 33] (by decide +kernel) (by decide +kernel)
set_option maxRecDepth 20000 in
theorem gX8_isOpen_X3_isPlace : GoodIn wsX8_isOpen (wsV RX8 55 RX3 yX3_isPlace wsX3_isPlace) := goodIn_app (goodIn_of _ (by decide +kernel)) ggX8_isOpen_X3_isPlace
set_option maxRecDepth 20000 in
theorem ggX8_isOpen_X3_hasOpenDoor : GoodIn wsX8_isOpen wsX3_hasOpenDoor := goodIn_r _ [14, 15, 16, 17, 8, 18, 30, 31, 32, 33] (by decide +kernel) (by decide +kernel)
set_option maxRecDepth 20000 in
theorem gX8_isOpen_X3_hasOpenDoor : GoodIn wsX8_isOpen (wsV RX8 66 RX3 yX3_hasOpenDoor wsX3_hasOpenDoor) := goodIn_app (goodIn_of _ (by decide +kernel)) ggX8_isOpen_X3_hasOpenDoor
theorem dX8_isOpen_0 : decode cX8_isOpen 0 = .ok (.aload_n 0, 1) := by decide +kernel
theorem dX8_isOpen_1 : decode cX8_isOpen 1 = .ok (.getfield 10, 3) := by decide +kernel
theorem dX8_isOpen_4 : decode cX8_isOpen 4 = .ok (.getfield 37, 3) := by decide +kernel
theorem dX8_isOpen_7 : decode cX8_isOpen 7 = .ok (.iload_n 1, 1) := by decide +kernel
theorem dX8_isOpen_8 : decode cX8_isOpen 8 = .ok (.invokevirtual 55, 3) := by decide +kernel
theorem dX8_isOpen_11 : decode cX8_isOpen 11 = .ok (.ifCond .eq 17, 3) := by decide +kernel
theorem dX8_isOpen_14 : decode cX8_isOpen 14 = .ok (.aload_n 0, 1) := by decide +kernel
theorem dX8_isOpen_15 : decode cX8_isOpen 15 = .ok (.getfield 10, 3) := by decide +kernel
theorem dX8_isOpen_18 : decode cX8_isOpen 18 = .ok (.getfield 37, 3) := by decide +kernel
theorem dX8_isOpen_21 : decode cX8_isOpen 21 = .ok (.iload_n 2, 1) := by decide +kernel
theorem dX8_isOpen_22 : decode cX8_isOpen 22 = .ok (.invokevirtual 55, 3) := by decide +kernel
theorem dX8_isOpen_25 : decode cX8_isOpen 25 = .ok (.ifCond .ne 13, 3) := by decide +kernel
theorem dX8_isOpen_28 : decode cX8_isOpen 28 = .ok (.new 59, 3) := by decide +kernel
theorem dX8_isOpen_31 : decode cX8_isOpen 31 = .ok (.dup, 1) := by decide +kernel
theorem dX8_isOpen_32 : decode cX8_isOpen 32 = .ok (.ldc 61, 2) := by decide +kernel
theorem dX8_isOpen_34 : decode cX8_isOpen 34 = .ok (.invokespecial 63, 3) := by decide +kernel
theorem dX8_isOpen_37 : decode cX8_isOpen 37 = .ok (.athrow, 1) := by decide +kernel
theorem dX8_isOpen_38 : decode cX8_isOpen 38 = .ok (.iload_n 1, 1) := by decide +kernel
theorem dX8_isOpen_39 : decode cX8_isOpen 39 = .ok (.iload_n 2, 1) := by decide +kernel
theorem dX8_isOpen_40 : decode cX8_isOpen 40 = .ok (.if_icmp .eq 22, 3) := by decide +kernel
theorem dX8_isOpen_43 : decode cX8_isOpen 43 = .ok (.aload_n 0, 1) := by decide +kernel
theorem dX8_isOpen_44 : decode cX8_isOpen 44 = .ok (.getfield 10, 3) := by decide +kernel
theorem dX8_isOpen_47 : decode cX8_isOpen 47 = .ok (.getfield 37, 3) := by decide +kernel
theorem dX8_isOpen_50 : decode cX8_isOpen 50 = .ok (.iload_n 1, 1) := by decide +kernel
theorem dX8_isOpen_51 : decode cX8_isOpen 51 = .ok (.iload_n 2, 1) := by decide +kernel
theorem dX8_isOpen_52 : decode cX8_isOpen 52 = .ok (.invokevirtual 66, 3) := by decide +kernel
theorem dX8_isOpen_55 : decode cX8_isOpen 55 = .ok (.ifCond .eq 7, 3) := by decide +kernel
theorem dX8_isOpen_58 : decode cX8_isOpen 58 = .ok (.iconst 1, 1) := by decide +kernel
theorem dX8_isOpen_59 : decode cX8_isOpen 59 = .ok (.goto 4, 3) := by decide +kernel
theorem dX8_isOpen_62 : decode cX8_isOpen 62 = .ok (.iconst 0, 1) := by decide +kernel
theorem dX8_isOpen_63 : decode cX8_isOpen 63 = .ok (.ireturn, 1) := by decide +kernel
set_option maxRecDepth 20000 in
theorem ggX8_addFuel_X8_isWithin : GoodIn wsX8_addFuel wsX8_isWithin := goodIn_r _ [10] (by decide +kernel) (by decide +kernel)
set_option maxRecDepth 20000 in
theorem gX8_addFuel_X8_isWithin : GoodIn wsX8_addFuel (va_wsS RX8 26 yX8_isWithin wsX8_isWithin) := goodIn_app (goodIn_of _ (by decide +kernel)) ggX8_addFuel_X8_isWithin
set_option maxRecDepth 20000 in
theorem ggX8_addFuel_X4_keep : GoodIn wsX8_addFuel wsX4_keep := goodIn_r _ [15, 16, 17, 18, 19, 20, 14, 21, 22, 23, 24, 25, 26, 27, 28, 29, 30, 31, 32, 33, 34, 35, 36, 37, 38, 39, 40, 41, 42, 43, 44, 9, 45, 46, 47, 48, 49, 50, 51, 52, 53, 54, 55, 56, 57, 58, 59, 60, 61, 62, 63, 64, 65, 66, 67, 68, 69, 70, 71, 72, 73, 74, 75, 76, 77, 78, 79, 80, 81, 82, 83, 84, 85, 86, 87, 88, 89, 90, 91, 92, 93, 94, 95, 96, 97, 98, 99, 100, 101, 102, 103, 104, 105, 106, 129, 130, 131, 115, 116, 117, 118, 119, 120, 121, 122, 132, 133, 134, 135, 123, 124, 125, 126, 127, 128, 136, 137, 138, 139, 140, 141, 142, 143, 144, 145, 146, 147, 148, 149, 150, 151, 152, 153, 154, 155, 156, 157] (by decide +kernel) (by decide +kernel)
set_option maxRecDepth 20000 in
theorem gX8_addFuel_X4_keep : GoodIn wsX8_addFuel (wsV RX8 47 RX4 yX4_keep wsX4_keep) := goodIn_app (goodIn_of _ (by decide +kernel)) ggX8_addFuel_X4_keep
set_option maxRecDepth 20000 in
theorem ggX8_addFuel_X2_feed : GoodIn wsX8_addFuel wsX2_feed := goodIn_r _ [110, 59, 111, 47, 48, 49, 123, 124, 125, 126, 127, 128] (by decide +kernel) (by decide +kernel)
set_option maxRecDepth 20000 in
theorem gX8_addFuel_X2_feed : GoodIn wsX8_addFuel (wsV RX8 80 RX2 yX2_feed wsX2_feed) := goodIn_app (goodIn_of _ (by decide +kernel)) ggX8_addFuel_X2_feed
theorem dX8_addFuel_0 : decode cX8_addFuel 0 = .ok (.iload_n 1, 1) := by decide +kernel
theorem dX8_addFuel_1 : decode cX8_addFuel 1 = .ok (.iconst 1, 1) := by decide +kernel
theorem dX8_addFuel_2 : decode cX8_addFuel 2 = .ok (.sipush 200, 3) := by decide +kernel
theorem dX8_addFuel_5 : decode cX8_addFuel 5 = .ok (.invokestatic 26, 3) := by decide +kernel
theorem dX8_addFuel_8 : decode cX8_addFuel 8 = .ok (.ifCond .ne 13, 3) := by decide +kernel
theorem dX8_addFuel_11 : decode cX8_addFuel 11 = .ok (.new 30, 3) := by decide +kernel
theorem dX8_addFuel_14 : decode cX8_addFuel 14 = .ok (.dup, 1) := by decide +kernel
theorem dX8_addFuel_15 : decode cX8_addFuel 15 = .ok (.ldc 74, 2) := by decide +kernel
theorem dX8_addFuel_17 : decode cX8_addFuel 17 = .ok (.invokespecial 34, 3) := by decide +kernel
theorem dX8_addFuel_20 : decode cX8_addFuel 20 = .ok (.athrow, 1) := by decide +kernel
theorem dX8_addFuel_21 : decode cX8_addFuel 21 = .ok (.aload_n 0, 1) := by decide +kernel
theorem dX8_addFuel_22 : decode cX8_addFuel 22 = .ok (.getfield 22, 3) := by decide +kernel
theorem dX8_addFuel_25 : decode cX8_addFuel 25 = .ok (.aload_n 0, 1) := by decide +kernel
theorem dX8_addFuel_26 : decode cX8_addFuel 26 = .ok (.getfield 10, 3) := by decide +kernel
theorem dX8_addFuel_29 : decode cX8_addFuel 29 = .ok (.invokevirtual 47, 3) := by decide +kernel
theorem dX8_addFuel_32 : decode cX8_addFuel 32 = .ok (.aload_n 0, 1) := by decide +kernel
theorem dX8_addFuel_33 : decode cX8_addFuel 33 = .ok (.getfield 10, 3) := by decide +kernel
theorem dX8_addFuel_36 : decode cX8_addFuel 36 = .ok (.getfield 76, 3) := by decide +kernel
theorem dX8_addFuel_39 : decode cX8_addFuel 39 = .ok (.iload_n 1, 1) := by decide +kernel
theorem dX8_addFuel_40 : decode cX8_addFuel 40 = .ok (.invokevirtual 80, 3) := by decide +kernel
theorem dX8_addFuel_43 : decode cX8_addFuel 43 = .ok (.aload_n 0, 1) := by decide +kernel
theorem dX8_addFuel_44 : decode cX8_addFuel 44 = .ok (.getfield 10, 3) := by decide +kernel
theorem dX8_addFuel_47 : decode cX8_addFuel 47 = .ok (.getfield 76, 3) := by decide +kernel
theorem dX8_addFuel_50 : decode cX8_addFuel 50 = .ok (.getfield 85, 3) := by decide +kernel
theorem dX8_addFuel_53 : decode cX8_addFuel 53 = .ok (.ireturn, 1) := by decide +kernel
set_option maxRecDepth 20000 in
theorem ggX8_setTarget_X8_isWithin : GoodIn wsX8_setTarget wsX8_isWithin := goodIn_r _ [10] (by decide +kernel) (by decide +kernel)
set_option maxRecDepth 20000 in
theorem gX8_setTarget_X8_isWithin : GoodIn wsX8_setTarget (va_wsS RX8 26 yX8_isWithin wsX8_isWithin) := goodIn_app (goodIn_of _ (by decide +kernel)) ggX8_setTarget_X8_isWithin
set_option maxRecDepth 20000 in
theorem ggX8_setTarget_X4_keep : GoodIn wsX8_setTarget wsX4_keep := goodIn_r _ [15, 16, 17, 18, 19, 20, 14, 21, 22, 23, 24, 25, 26, 27, 28, 29, 30, 31, 32, 33, 34, 35, 36, 37, 38, 39, 40, 41, 42, 43, 44, 9, 45, 46, 47, 48, 49, 50, 51, 52, 53, 54, 55, 56, 57, 58, 59, 60, 61, 62, 63, 64, 65, 66, 67, 68, 69, 70, 71, 72, 73, 74, 75, 76, 77, 78, 79, 80, 81, 82, 83, 84, 85, 86, 87, 88, 89, 90, 91, 92, 93, 94, 95, 96, 97, 98, 99, 100, 101, 102, 103, 104, 105, 106, 124, 125, 126, 110, 111, 112, 113, 114, 115, 116, 117, 127, 128, 129, 130, 118, 119, 120, 121, 122, 123, 131, 132, 133, 134, 135, 136, 137, 138, 139, 140, 141, 142, 143, 144, 145, 146, 147, 148, 149, 150, 151, 152] (by decide +kernel) (by decide +kernel)
set_option maxRecDepth 20000 in
theorem gX8_setTarget_X4_keep : GoodIn wsX8_setTarget (wsV RX8 47 RX4 yX4_keep wsX4_keep) := goodIn_app (goodIn_of _ (by decide +kernel)) ggX8_setTarget_X4_keep
theorem dX8_setTarget_0 : decode cX8_setTarget 0 = .ok (.iload_n 1, 1) := by decide +kernel
theorem dX8_setTarget_1 : decode cX8_setTarget 1 = .ok (.iconst 0, 1) := by decide +kernel
theorem dX8_setTarget_2 : decode cX8_setTarget 2 = .ok (.bipush 8, 2) := by decide +kernel
theorem dX8_setTarget_4 : decode cX8_setTarget 4 = .ok (.invokestatic 26, 3) := by decide +kernel
theorem dX8_setTarget_7 : decode cX8_setTarget 7 = .ok (.ifCond .ne 13, 3) := by decide +kernel
theorem dX8_setTarget_10 : decode cX8_setTarget 10 = .ok (.new 30, 3) := by decide +kernel
theorem dX8_setTarget_13 : decode cX8_setTarget 13 = .ok (.dup, 1) := by decide +kernel
theorem dX8_setTarget_14 : decode cX8_setTarget 14 = .ok (.ldc 88, 2) := by decide +kernel
theorem dX8_setTarget_16 : decode cX8_setTarget 16 = .ok (.invokespecial 34, 3) := by decide +kernel
theorem dX8_setTarget_19 : decode cX8_setTarget 19 = .ok (.athrow, 1) := by decide +kernel
theorem dX8_setTarget_20 : decode cX8_setTarget 20 = .ok (.aload_n 0, 1) := by decide +kernel
theorem dX8_setTarget_21 : decode cX8_setTarget 21 = .ok (.getfield 10, 3) := by decide +kernel
theorem dX8_setTarget_24 : decode cX8_setTarget 24 = .ok (.getfield 76, 3) := by decide +kernel
theorem dX8_setTarget_27 : decode cX8_setTarget 27 = .ok (.getfield 90, 3) := by decide +kernel
theorem dX8_setTarget_30 : decode cX8_setTarget 30 = .ok (.istore_n 2, 1) := by decide +kernel
theorem dX8_setTarget_31 : decode cX8_setTarget 31 = .ok (.aload_n 0, 1) := by decide +kernel
theorem dX8_setTarget_32 : decode cX8_setTarget 32 = .ok (.getfield 22, 3) := by decide +kernel
theorem dX8_setTarget_35 : decode cX8_setTarget 35 = .ok (.aload_n 0, 1) := by decide +kernel
theorem dX8_setTarget_36 : decode cX8_setTarget 36 = .ok (.getfield 10, 3) := by decide +kernel
theorem dX8_setTarget_39 : decode cX8_setTarget 39 = .ok (.invokevirtual 47, 3) := by decide +kernel
theorem dX8_setTarget_42 : decode cX8_setTarget 42 = .ok (.aload_n 0, 1) := by decide +kernel
theorem dX8_setTarget_43 : decode cX8_setTarget 43 = .ok (.getfield 10, 3) := by decide +kernel
theorem dX8_setTarget_46 : decode cX8_setTarget 46 = .ok (.getfield 76, 3) := by decide +kernel
theorem dX8_setTarget_49 : decode cX8_setTarget 49 = .ok (.iload_n 1, 1) := by decide +kernel
theorem dX8_setTarget_50 : decode cX8_setTarget 50 = .ok (.putfield 90, 3) := by decide +kernel
theorem dX8_setTarget_53 : decode cX8_setTarget 53 = .ok (.iload_n 2, 1) := by decide +kernel
theorem dX8_setTarget_54 : decode cX8_setTarget 54 = .ok (.ireturn, 1) := by decide +kernel
set_option maxRecDepth 20000 in
theorem ggX8_set_X8_isWithin : GoodIn wsX8_set wsX8_isWithin := goodIn_r _ [10] (by decide +kernel) (by decide +kernel)
set_option maxRecDepth 20000 in
theorem gX8_set_X8_isWithin : GoodIn wsX8_set (va_wsS RX8 26 yX8_isWithin wsX8_isWithin) := goodIn_app (goodIn_of _ (by decide +kernel)) ggX8_set_X8_isWithin
set_option maxRecDepth 20000 in
theorem ggX8_set_X7_aboutAll : GoodIn wsX8_set wsX7_aboutAll := goodIn_r _ [15, 16, 17, 18, 19, 20, 21, 22, 23, 24, 25, 26, 27, 28, 29, 30, 31, 32, 33, 34, 35, 36, 37, 38, 39, 40, 41, 42, 43, 44, 45, 46, 47, 138, 139, 140, 141, 142, 143, 144, 145, 146, 147, 148, 149, 150, 151, 152, 153, 154, 155, 156, 157, 158, 159, 160, 161, 162, 163, 164, 165, 166, 167, 168, 169, 170, 171, 172, 173, 174, 175, 176, 177] (by decide +kernel) (by decide +kernel)
set_option maxRecDepth 20000 in
theorem gX8_set_X7_aboutAll : GoodIn wsX8_set (wsV RX8 104 RX7 yX7_aboutAll wsX7_aboutAll) := goodIn_app (goodIn_of _ (by decide +kernel)) ggX8_set_X7_aboutAll
set_option maxRecDepth 20000 in
theorem ggX8_set_X4_keep : GoodIn wsX8_set wsX4_keep := goodIn_r _ [52, 53, 54, 55, 56, 57, 51, 58, 59, 60, 61, 62, 14, 63, 26, 24, 16, 29, 18, 31, 33, 64, 65, 66, 67, 68, 69, 70, 71, 72, 73, 9, 74, 75, 76, 77, 78, 79, 80, 81, 82, 83, 84, 85, 38, 86, 40, 45, 47, 46, 87, 88, 89, 90, 91, 92, 93, 94, 95, 96, 97, 98, 99, 100, 101, 102, 103, 104, 105, 106, 107, 108, 109, 110, 111, 112, 113, 114, 115, 116, 117, 118, 119, 120, 121, 122, 123, 124, 125, 126, 127, 128, 129, 130, 178, 179, 180, 138, 139, 140, 141, 142, 143, 144, 145, 156, 157, 158, 159, 146, 147, 148, 149, 150, 151, 160, 161, 162, 163, 164, 165, 166, 167, 152, 153, 154, 155, 168, 169, 170, 171, 172, 173, 174, 175, 176, 177] (by decide +kernel) (by decide +kernel)
set_option maxRecDepth 20000 in
theorem gX8_set_X4_keep : GoodIn wsX8_set (wsV RX8 47 RX4 yX4_keep wsX4_keep) := goodIn_app (goodIn_of _ (by decide +kernel)) ggX8_set_X4_keep
set_option maxRecDepth 20000 in
theorem ggX8_set_X7_putSetting : GoodIn wsX8_set wsX7_putSetting := goodIn_r _ [134, 16, 17, 18, 19, 20, 21, 22, 23, 138, 139, 140, 141, 142, 143, 144, 145, 146, 147, 148, 149, 150, 151, 152, 153, 154, 155] (by decide +kernel) (by decide +kernel)
set_option maxRecDepth 20000 in
theorem gX8_set_X7_putSetting : GoodIn wsX8_set (wsV RX8 108 RX7 yX7_putSetting wsX7_putSetting) := goodIn_app (goodIn_of _ (by decide +kernel)) ggX8_set_X7_putSetting
theorem dX8_set_0 : decode cX8_set 0 = .ok (.iload_n 1, 1) := by decide +kernel
theorem dX8_set_1 : decode cX8_set 1 = .ok (.iconst 0, 1) := by decide +kernel
theorem dX8_set_2 : decode cX8_set 2 = .ok (.iconst 5, 1) := by decide +kernel
theorem dX8_set_3 : decode cX8_set 3 = .ok (.invokestatic 26, 3) := by decide +kernel
theorem dX8_set_6 : decode cX8_set 6 = .ok (.ifCond .ne 13, 3) := by decide +kernel
theorem dX8_set_9 : decode cX8_set 9 = .ok (.new 30, 3) := by decide +kernel
theorem dX8_set_12 : decode cX8_set 12 = .ok (.dup, 1) := by decide +kernel
theorem dX8_set_13 : decode cX8_set 13 = .ok (.ldc 93, 2) := by decide +kernel
theorem dX8_set_15 : decode cX8_set 15 = .ok (.invokespecial 34, 3) := by decide +kernel
theorem dX8_set_18 : decode cX8_set 18 = .ok (.athrow, 1) := by decide +kernel
theorem dX8_set_19 : decode cX8_set 19 = .ok (.iload_n 2, 1) := by decide +kernel
theorem dX8_set_20 : decode cX8_set 20 = .ok (.getstatic 95, 3) := by decide +kernel
theorem dX8_set_23 : decode cX8_set 23 = .ok (.iload_n 1, 1) := by decide +kernel
theorem dX8_set_24 : decode cX8_set 24 = .ok (.iaload, 1) := by decide +kernel
theorem dX8_set_25 : decode cX8_set 25 = .ok (.getstatic 99, 3) := by decide +kernel
theorem dX8_set_28 : decode cX8_set 28 = .ok (.iload_n 1, 1) := by decide +kernel
theorem dX8_set_29 : decode cX8_set 29 = .ok (.iaload, 1) := by decide +kernel
theorem dX8_set_30 : decode cX8_set 30 = .ok (.invokestatic 26, 3) := by decide +kernel
theorem dX8_set_33 : decode cX8_set 33 = .ok (.ifCond .ne 13, 3) := by decide +kernel
theorem dX8_set_36 : decode cX8_set 36 = .ok (.new 30, 3) := by decide +kernel
theorem dX8_set_39 : decode cX8_set 39 = .ok (.dup, 1) := by decide +kernel
theorem dX8_set_40 : decode cX8_set 40 = .ok (.ldc 102, 2) := by decide +kernel
theorem dX8_set_42 : decode cX8_set 42 = .ok (.invokespecial 34, 3) := by decide +kernel
theorem dX8_set_45 : decode cX8_set 45 = .ok (.athrow, 1) := by decide +kernel
theorem dX8_set_46 : decode cX8_set 46 = .ok (.aload_n 0, 1) := by decide +kernel
theorem dX8_set_47 : decode cX8_set 47 = .ok (.getfield 10, 3) := by decide +kernel
theorem dX8_set_50 : decode cX8_set 50 = .ok (.iload_n 1, 1) := by decide +kernel
theorem dX8_set_51 : decode cX8_set 51 = .ok (.invokevirtual 104, 3) := by decide +kernel
theorem dX8_set_54 : decode cX8_set 54 = .ok (.istore_n 3, 1) := by decide +kernel
theorem dX8_set_55 : decode cX8_set 55 = .ok (.aload_n 0, 1) := by decide +kernel
theorem dX8_set_56 : decode cX8_set 56 = .ok (.getfield 22, 3) := by decide +kernel
theorem dX8_set_59 : decode cX8_set 59 = .ok (.aload_n 0, 1) := by decide +kernel
theorem dX8_set_60 : decode cX8_set 60 = .ok (.getfield 10, 3) := by decide +kernel
theorem dX8_set_63 : decode cX8_set 63 = .ok (.invokevirtual 47, 3) := by decide +kernel
theorem dX8_set_66 : decode cX8_set 66 = .ok (.aload_n 0, 1) := by decide +kernel
theorem dX8_set_67 : decode cX8_set 67 = .ok (.getfield 10, 3) := by decide +kernel
theorem dX8_set_70 : decode cX8_set 70 = .ok (.iload_n 1, 1) := by decide +kernel
theorem dX8_set_71 : decode cX8_set 71 = .ok (.iload_n 2, 1) := by decide +kernel
theorem dX8_set_72 : decode cX8_set 72 = .ok (.invokevirtual 108, 3) := by decide +kernel
theorem dX8_set_75 : decode cX8_set 75 = .ok (.iload_n 3, 1) := by decide +kernel
theorem dX8_set_76 : decode cX8_set 76 = .ok (.ireturn, 1) := by decide +kernel
set_option maxRecDepth 20000 in
theorem ggX8_setSmoke_X3_isRoom : GoodIn wsX8_setSmoke wsX3_isRoom := goodIn_r _ [14, 15, 125, 126, 127, 128] (by decide +kernel) (by decide +kernel)
set_option maxRecDepth 20000 in
theorem gX8_setSmoke_X3_isRoom : GoodIn wsX8_setSmoke (wsV RX8 112 RX3 yX3_isRoom wsX3_isRoom) := goodIn_app (goodIn_of _ (by decide +kernel)) ggX8_setSmoke_X3_isRoom
set_option maxRecDepth 20000 in
theorem ggX8_setSmoke_X8_isWithin : GoodIn wsX8_setSmoke wsX8_isWithin := goodIn_r _ [19] (by decide +kernel) (by decide +kernel)
set_option maxRecDepth 20000 in
theorem gX8_setSmoke_X8_isWithin : GoodIn wsX8_setSmoke (va_wsS RX8 26 yX8_isWithin wsX8_isWithin) := goodIn_app (goodIn_of _ (by decide +kernel)) ggX8_setSmoke_X8_isWithin
set_option maxRecDepth 20000 in
theorem ggX8_setSmoke_X4_keep : GoodIn wsX8_setSmoke wsX4_keep := goodIn_r _ [24, 25, 26, 27, 28, 29, 23, 30, 31, 32, 33, 34, 35, 36, 37, 38, 39, 40, 41, 42, 43, 44, 45, 46, 47, 13, 48, 15, 49, 50, 51, 18, 52, 53, 54, 55, 56, 57, 58, 59, 60, 61, 62, 63, 64, 65, 66, 67, 68, 69, 70, 71, 72, 73, 74, 75, 76, 77, 78, 79, 80, 81, 82, 83, 84, 85, 86, 87, 88, 89, 90, 91, 92, 93, 94, 95, 96, 97, 98, 99, 100, 101, 102, 103, 104, 105, 106, 107, 108, 109, 110, 111, 112, 113, 129, 130, 131, 117, 118, 119, 120, 121, 122, 123, 124, 125, 126, 127, 128, 132, 133, 134, 135, 136, 137, 138, 139, 140, 141, 142, 143, 144, 145, 146, 147, 148, 149, 150, 151, 152, 153, 154, 155, 156, 157, 158, 159] (by decide +kernel) (by decide +kernel)
set_option maxRecDepth 20000 in
theorem gX8_setSmoke_X4_keep : GoodIn wsX8_setSmoke (wsV RX8 47 RX4 yX4_keep wsX4_keep) := goodIn_app (goodIn_of _ (by decide +kernel)) ggX8_setSmoke_X4_keep
theorem dX8_setSmoke_0 : decode cX8_setSmoke 0 = .ok (.aload_n 0, 1) := by decide +kernel
theorem dX8_setSmoke_1 : decode cX8_setSmoke 1 = .ok (.getfield 10, 3) := by decide +kernel
theorem dX8_setSmoke_4 : decode cX8_setSmoke 4 = .ok (.getfield 37, 3) := by decide +kernel
theorem dX8_setSmoke_7 : decode cX8_setSmoke 7 = .ok (.iload_n 1, 1) := by decide +kernel
theorem dX8_setSmoke_8 : decode cX8_setSmoke 8 = .ok (.invokevirtual 112, 3) := by decide +kernel
theorem dX8_setSmoke_11 : decode cX8_setSmoke 11 = .ok (.ifCond .ne 13, 3) := by decide +kernel
theorem dX8_setSmoke_14 : decode cX8_setSmoke 14 = .ok (.new 59, 3) := by decide +kernel
theorem dX8_setSmoke_17 : decode cX8_setSmoke 17 = .ok (.dup, 1) := by decide +kernel
theorem dX8_setSmoke_18 : decode cX8_setSmoke 18 = .ok (.ldc 61, 2) := by decide +kernel
theorem dX8_setSmoke_20 : decode cX8_setSmoke 20 = .ok (.invokespecial 63, 3) := by decide +kernel
theorem dX8_setSmoke_23 : decode cX8_setSmoke 23 = .ok (.athrow, 1) := by decide +kernel
theorem dX8_setSmoke_24 : decode cX8_setSmoke 24 = .ok (.iload_n 2, 1) := by decide +kernel
theorem dX8_setSmoke_25 : decode cX8_setSmoke 25 = .ok (.iconst 0, 1) := by decide +kernel
theorem dX8_setSmoke_26 : decode cX8_setSmoke 26 = .ok (.ldc 115, 2) := by decide +kernel
theorem dX8_setSmoke_28 : decode cX8_setSmoke 28 = .ok (.invokestatic 26, 3) := by decide +kernel
theorem dX8_setSmoke_31 : decode cX8_setSmoke 31 = .ok (.ifCond .ne 13, 3) := by decide +kernel
theorem dX8_setSmoke_34 : decode cX8_setSmoke 34 = .ok (.new 30, 3) := by decide +kernel
theorem dX8_setSmoke_37 : decode cX8_setSmoke 37 = .ok (.dup, 1) := by decide +kernel
theorem dX8_setSmoke_38 : decode cX8_setSmoke 38 = .ok (.ldc 116, 2) := by decide +kernel
theorem dX8_setSmoke_40 : decode cX8_setSmoke 40 = .ok (.invokespecial 34, 3) := by decide +kernel
theorem dX8_setSmoke_43 : decode cX8_setSmoke 43 = .ok (.athrow, 1) := by decide +kernel
theorem dX8_setSmoke_44 : decode cX8_setSmoke 44 = .ok (.aload_n 0, 1) := by decide +kernel
theorem dX8_setSmoke_45 : decode cX8_setSmoke 45 = .ok (.getfield 10, 3) := by decide +kernel
theorem dX8_setSmoke_48 : decode cX8_setSmoke 48 = .ok (.getfield 37, 3) := by decide +kernel
theorem dX8_setSmoke_51 : decode cX8_setSmoke 51 = .ok (.getfield 118, 3) := by decide +kernel
theorem dX8_setSmoke_54 : decode cX8_setSmoke 54 = .ok (.iload_n 1, 1) := by decide +kernel
theorem dX8_setSmoke_55 : decode cX8_setSmoke 55 = .ok (.iaload, 1) := by decide +kernel
theorem dX8_setSmoke_56 : decode cX8_setSmoke 56 = .ok (.istore_n 3, 1) := by decide +kernel
theorem dX8_setSmoke_57 : decode cX8_setSmoke 57 = .ok (.aload_n 0, 1) := by decide +kernel
theorem dX8_setSmoke_58 : decode cX8_setSmoke 58 = .ok (.getfield 22, 3) := by decide +kernel
theorem dX8_setSmoke_61 : decode cX8_setSmoke 61 = .ok (.aload_n 0, 1) := by decide +kernel
theorem dX8_setSmoke_62 : decode cX8_setSmoke 62 = .ok (.getfield 10, 3) := by decide +kernel
theorem dX8_setSmoke_65 : decode cX8_setSmoke 65 = .ok (.invokevirtual 47, 3) := by decide +kernel
theorem dX8_setSmoke_68 : decode cX8_setSmoke 68 = .ok (.aload_n 0, 1) := by decide +kernel
theorem dX8_setSmoke_69 : decode cX8_setSmoke 69 = .ok (.getfield 10, 3) := by decide +kernel
theorem dX8_setSmoke_72 : decode cX8_setSmoke 72 = .ok (.getfield 37, 3) := by decide +kernel
theorem dX8_setSmoke_75 : decode cX8_setSmoke 75 = .ok (.getfield 118, 3) := by decide +kernel
theorem dX8_setSmoke_78 : decode cX8_setSmoke 78 = .ok (.iload_n 1, 1) := by decide +kernel
theorem dX8_setSmoke_79 : decode cX8_setSmoke 79 = .ok (.iload_n 2, 1) := by decide +kernel
theorem dX8_setSmoke_80 : decode cX8_setSmoke 80 = .ok (.iastore, 1) := by decide +kernel
theorem dX8_setSmoke_81 : decode cX8_setSmoke 81 = .ok (.iload_n 3, 1) := by decide +kernel
theorem dX8_setSmoke_82 : decode cX8_setSmoke 82 = .ok (.ireturn, 1) := by decide +kernel
set_option maxRecDepth 20000 in
theorem ggX8_info_X8_isWithin : GoodIn wsX8_info wsX8_isWithin := goodIn_r _ [7] (by decide +kernel) (by decide +kernel)
set_option maxRecDepth 20000 in
theorem gX8_info_X8_isWithin : GoodIn wsX8_info (va_wsS RX8 26 yX8_isWithin wsX8_isWithin) := goodIn_app (goodIn_of _ (by decide +kernel)) ggX8_info_X8_isWithin
set_option maxRecDepth 20000 in
theorem ggX8_info_X7_aboutAll : GoodIn wsX8_info wsX7_aboutAll := goodIn_r _ [12, 13, 14, 15, 16, 17, 18, 19, 20, 21, 22, 23, 24, 25, 26, 27, 28, 29, 30, 31, 32, 33, 34, 35, 36, 37, 38, 39, 40, 41, 42, 43, 44, 48, 49, 50, 51, 52, 53, 54, 55, 56, 57, 58, 59, 60, 61, 62, 63, 64, 65, 66, 67, 68, 69, 70, 71, 72, 73, 74, 75, 76, 77, 78, 79, 80, 81, 82, 83, 84, 85, 86, 87] (by decide +kernel) (by decide +kernel)
set_option maxRecDepth 20000 in
theorem gX8_info_X7_aboutAll : GoodIn wsX8_info (wsV RX8 104 RX7 yX7_aboutAll wsX7_aboutAll) := goodIn_app (goodIn_of _ (by decide +kernel)) ggX8_info_X7_aboutAll
theorem dX8_info_0 : decode cX8_info 0 = .ok (.iload_n 1, 1) := by decide +kernel
theorem dX8_info_1 : decode cX8_info 1 = .ok (.iconst 0, 1) := by decide +kernel
theorem dX8_info_2 : decode cX8_info 2 = .ok (.bipush 14, 2) := by decide +kernel
theorem dX8_info_4 : decode cX8_info 4 = .ok (.invokestatic 26, 3) := by decide +kernel
theorem dX8_info_7 : decode cX8_info 7 = .ok (.ifCond .ne 13, 3) := by decide +kernel
theorem dX8_info_10 : decode cX8_info 10 = .ok (.new 30, 3) := by decide +kernel
theorem dX8_info_13 : decode cX8_info 13 = .ok (.dup, 1) := by decide +kernel
theorem dX8_info_14 : decode cX8_info 14 = .ok (.ldc 121, 2) := by decide +kernel
theorem dX8_info_16 : decode cX8_info 16 = .ok (.invokespecial 34, 3) := by decide +kernel
theorem dX8_info_19 : decode cX8_info 19 = .ok (.athrow, 1) := by decide +kernel
theorem dX8_info_20 : decode cX8_info 20 = .ok (.aload_n 0, 1) := by decide +kernel
theorem dX8_info_21 : decode cX8_info 21 = .ok (.getfield 10, 3) := by decide +kernel
theorem dX8_info_24 : decode cX8_info 24 = .ok (.iload_n 1, 1) := by decide +kernel
theorem dX8_info_25 : decode cX8_info 25 = .ok (.invokevirtual 104, 3) := by decide +kernel
theorem dX8_info_28 : decode cX8_info 28 = .ok (.ireturn, 1) := by decide +kernel
set_option maxRecDepth 20000 in
theorem ggX8_room_X3_isRoom : GoodIn wsX8_room wsX3_isRoom := goodIn_r _ [11, 12, 77, 78, 79, 80] (by decide +kernel) (by decide +kernel)
set_option maxRecDepth 20000 in
theorem gX8_room_X3_isRoom : GoodIn wsX8_room (wsV RX8 112 RX3 yX3_isRoom wsX3_isRoom) := goodIn_app (goodIn_of _ (by decide +kernel)) ggX8_room_X3_isRoom
set_option maxRecDepth 20000 in
theorem ggX8_room_X8_isWithin : GoodIn wsX8_room wsX8_isWithin := goodIn_r _ [16] (by decide +kernel) (by decide +kernel)
set_option maxRecDepth 20000 in
theorem gX8_room_X8_isWithin : GoodIn wsX8_room (va_wsS RX8 26 yX8_isWithin wsX8_isWithin) := goodIn_app (goodIn_of _ (by decide +kernel)) ggX8_room_X8_isWithin
set_option maxRecDepth 20000 in
theorem ggX8_room_X7_aboutRoom : GoodIn wsX8_room wsX7_aboutRoom := goodIn_r _ [21, 22, 23, 24, 25, 26, 27, 28, 29, 30, 31, 32, 33, 34, 35, 36, 37, 20, 38, 39, 40, 41, 42, 43, 44, 45, 46, 47, 48, 49, 50, 51, 52, 53, 54, 55, 56, 57, 58, 59, 60, 61, 62, 63, 64, 65, 69, 70, 71, 72, 73, 74, 75, 76, 77, 78, 79, 80, 81, 82, 83, 84, 85, 86, 87, 88, 89, 90, 91, 92] (by decide +kernel) (by decide +kernel)
set_option maxRecDepth 20000 in
theorem gX8_room_X7_aboutRoom : GoodIn wsX8_room (wsV RX8 125 RX7 yX7_aboutRoom wsX7_aboutRoom) := goodIn_app (goodIn_of _ (by decide +kernel)) ggX8_room_X7_aboutRoom
theorem dX8_room_0 : decode cX8_room 0 = .ok (.aload_n 0, 1) := by decide +kernel
theorem dX8_room_1 : decode cX8_room 1 = .ok (.getfield 10, 3) := by decide +kernel
theorem dX8_room_4 : decode cX8_room 4 = .ok (.getfield 37, 3) := by decide +kernel
theorem dX8_room_7 : decode cX8_room 7 = .ok (.iload_n 1, 1) := by decide +kernel
theorem dX8_room_8 : decode cX8_room 8 = .ok (.invokevirtual 112, 3) := by decide +kernel
theorem dX8_room_11 : decode cX8_room 11 = .ok (.ifCond .ne 13, 3) := by decide +kernel
theorem dX8_room_14 : decode cX8_room 14 = .ok (.new 59, 3) := by decide +kernel
theorem dX8_room_17 : decode cX8_room 17 = .ok (.dup, 1) := by decide +kernel
theorem dX8_room_18 : decode cX8_room 18 = .ok (.ldc 61, 2) := by decide +kernel
theorem dX8_room_20 : decode cX8_room 20 = .ok (.invokespecial 63, 3) := by decide +kernel
theorem dX8_room_23 : decode cX8_room 23 = .ok (.athrow, 1) := by decide +kernel
theorem dX8_room_24 : decode cX8_room 24 = .ok (.iload_n 2, 1) := by decide +kernel
theorem dX8_room_25 : decode cX8_room 25 = .ok (.iconst 0, 1) := by decide +kernel
theorem dX8_room_26 : decode cX8_room 26 = .ok (.bipush 6, 2) := by decide +kernel
theorem dX8_room_28 : decode cX8_room 28 = .ok (.invokestatic 26, 3) := by decide +kernel
theorem dX8_room_31 : decode cX8_room 31 = .ok (.ifCond .ne 13, 3) := by decide +kernel
theorem dX8_room_34 : decode cX8_room 34 = .ok (.new 30, 3) := by decide +kernel
theorem dX8_room_37 : decode cX8_room 37 = .ok (.dup, 1) := by decide +kernel
theorem dX8_room_38 : decode cX8_room 38 = .ok (.ldc 123, 2) := by decide +kernel
theorem dX8_room_40 : decode cX8_room 40 = .ok (.invokespecial 34, 3) := by decide +kernel
theorem dX8_room_43 : decode cX8_room 43 = .ok (.athrow, 1) := by decide +kernel
theorem dX8_room_44 : decode cX8_room 44 = .ok (.aload_n 0, 1) := by decide +kernel
theorem dX8_room_45 : decode cX8_room 45 = .ok (.getfield 10, 3) := by decide +kernel
theorem dX8_room_48 : decode cX8_room 48 = .ok (.iload_n 1, 1) := by decide +kernel
theorem dX8_room_49 : decode cX8_room 49 = .ok (.iload_n 2, 1) := by decide +kernel
theorem dX8_room_50 : decode cX8_room 50 = .ok (.invokevirtual 125, 3) := by decide +kernel
theorem dX8_room_53 : decode cX8_room 53 = .ok (.ireturn, 1) := by decide +kernel
set_option maxRecDepth 20000 in
theorem ggX8_addSensor_X3_isRoom : GoodIn wsX8_addSensor wsX3_isRoom := goodIn_r _ [16, 17, 139, 140, 141, 142] (by decide +kernel) (by decide +kernel)
set_option maxRecDepth 20000 in
theorem gX8_addSensor_X3_isRoom : GoodIn wsX8_addSensor (wsV RX8 112 RX3 yX3_isRoom wsX3_isRoom) := goodIn_app (goodIn_of _ (by decide +kernel)) ggX8_addSensor_X3_isRoom
set_option maxRecDepth 20000 in
theorem ggX8_addSensor_X8_isWithin : GoodIn wsX8_addSensor wsX8_isWithin := goodIn_r _ [21] (by decide +kernel) (by decide +kernel)
set_option maxRecDepth 20000 in
theorem gX8_addSensor_X8_isWithin : GoodIn wsX8_addSensor (va_wsS RX8 26 yX8_isWithin wsX8_isWithin) := goodIn_app (goodIn_of _ (by decide +kernel)) ggX8_addSensor_X8_isWithin
set_option maxRecDepth 20000 in
theorem ggX8_addSensor_X4_keep : GoodIn wsX8_addSensor wsX4_keep := goodIn_r _ [26, 27, 28, 29, 30, 31, 25, 32, 33, 34, 35, 36, 37, 38, 39, 40, 41, 42, 43, 44, 45, 46, 47, 48, 49, 15, 50, 17, 51, 52, 53, 20, 54, 55, 56, 57, 58, 59, 60, 61, 62, 63, 64, 65, 66, 67, 68, 69, 70, 71, 72, 73, 74, 75, 76, 77, 78, 79, 80, 81, 82, 83, 84, 85, 86, 87, 88, 89, 90, 91, 92, 93, 94, 95, 96, 97, 98, 99, 100, 101, 102, 103, 104, 105, 106, 107, 108, 109, 110, 111, 112, 113, 114, 115, 143, 144, 145, 123, 124, 125, 126, 127, 128, 129, 130, 139, 140, 141, 142, 146, 147, 148, 149, 150, 151, 131, 132, 133, 134, 135, 136, 137, 138, 152, 153, 154, 155, 156, 157, 158, 159, 160, 161, 162, 163, 164, 165] (by decide +kernel) (by decide +kernel)
set_option maxRecDepth 20000 in
theorem gX8_addSensor_X4_keep : GoodIn wsX8_addSensor (wsV RX8 47 RX4 yX4_keep wsX4_keep) := goodIn_app (goodIn_of _ (by decide +kernel)) ggX8_addSensor_X4_keep
set_option maxRecDepth 20000 in
theorem ggX8_addSensor_X6_append : GoodIn wsX8_addSensor wsX6_append := goodIn_r _ [119, 79, 80, 81, 82, 83, 84, 85, 86, 131, 132, 133, 134, 135, 136, 137, 138] (by decide +kernel) (by decide +kernel)
set_option maxRecDepth 20000 in
theorem gX8_addSensor_X6_append : GoodIn wsX8_addSensor (wsV RX8 145 RX6 yX6_append wsX6_append) := goodIn_app (goodIn_of _ (by decide +kernel)) ggX8_addSensor_X6_append
theorem dX8_addSensor_0 : decode cX8_addSensor 0 = .ok (.aload_n 0, 1) := by decide +kernel
theorem dX8_addSensor_1 : decode cX8_addSensor 1 = .ok (.getfield 10, 3) := by decide +kernel
theorem dX8_addSensor_4 : decode cX8_addSensor 4 = .ok (.getfield 37, 3) := by decide +kernel
theorem dX8_addSensor_7 : decode cX8_addSensor 7 = .ok (.iload_n 1, 1) := by decide +kernel
theorem dX8_addSensor_8 : decode cX8_addSensor 8 = .ok (.invokevirtual 112, 3) := by decide +kernel
theorem dX8_addSensor_11 : decode cX8_addSensor 11 = .ok (.ifCond .ne 13, 3) := by decide +kernel
theorem dX8_addSensor_14 : decode cX8_addSensor 14 = .ok (.new 59, 3) := by decide +kernel
theorem dX8_addSensor_17 : decode cX8_addSensor 17 = .ok (.dup, 1) := by decide +kernel
theorem dX8_addSensor_18 : decode cX8_addSensor 18 = .ok (.ldc 61, 2) := by decide +kernel
theorem dX8_addSensor_20 : decode cX8_addSensor 20 = .ok (.invokespecial 63, 3) := by decide +kernel
theorem dX8_addSensor_23 : decode cX8_addSensor 23 = .ok (.athrow, 1) := by decide +kernel
theorem dX8_addSensor_24 : decode cX8_addSensor 24 = .ok (.iload_n 2, 1) := by decide +kernel
theorem dX8_addSensor_25 : decode cX8_addSensor 25 = .ok (.iconst 0, 1) := by decide +kernel
theorem dX8_addSensor_26 : decode cX8_addSensor 26 = .ok (.iconst 2, 1) := by decide +kernel
theorem dX8_addSensor_27 : decode cX8_addSensor 27 = .ok (.invokestatic 26, 3) := by decide +kernel
theorem dX8_addSensor_30 : decode cX8_addSensor 30 = .ok (.ifCond .eq 35, 3) := by decide +kernel
theorem dX8_addSensor_33 : decode cX8_addSensor 33 = .ok (.iload_n 3, 1) := by decide +kernel
theorem dX8_addSensor_34 : decode cX8_addSensor 34 = .ok (.iconst 1, 1) := by decide +kernel
theorem dX8_addSensor_35 : decode cX8_addSensor 35 = .ok (.sipush 9999, 3) := by decide +kernel
theorem dX8_addSensor_38 : decode cX8_addSensor 38 = .ok (.invokestatic 26, 3) := by decide +kernel
theorem dX8_addSensor_41 : decode cX8_addSensor 41 = .ok (.ifCond .eq 24, 3) := by decide +kernel
theorem dX8_addSensor_44 : decode cX8_addSensor 44 = .ok (.iload 4, 2) := by decide +kernel
theorem dX8_addSensor_46 : decode cX8_addSensor 46 = .ok (.iconst 0, 1) := by decide +kernel
theorem dX8_addSensor_47 : decode cX8_addSensor 47 = .ok (.bipush 9, 2) := by decide +kernel
theorem dX8_addSensor_49 : decode cX8_addSensor 49 = .ok (.invokestatic 26, 3) := by decide +kernel
theorem dX8_addSensor_52 : decode cX8_addSensor 52 = .ok (.ifCond .eq 13, 3) := by decide +kernel
theorem dX8_addSensor_55 : decode cX8_addSensor 55 = .ok (.iload 5, 2) := by decide +kernel
theorem dX8_addSensor_57 : decode cX8_addSensor 57 = .ok (.iconst 1, 1) := by decide +kernel
theorem dX8_addSensor_58 : decode cX8_addSensor 58 = .ok (.iconst 3, 1) := by decide +kernel
theorem dX8_addSensor_59 : decode cX8_addSensor 59 = .ok (.invokestatic 26, 3) := by decide +kernel
theorem dX8_addSensor_62 : decode cX8_addSensor 62 = .ok (.ifCond .ne 13, 3) := by decide +kernel
theorem dX8_addSensor_65 : decode cX8_addSensor 65 = .ok (.new 30, 3) := by decide +kernel
theorem dX8_addSensor_68 : decode cX8_addSensor 68 = .ok (.dup, 1) := by decide +kernel
theorem dX8_addSensor_69 : decode cX8_addSensor 69 = .ok (.ldc 129, 2) := by decide +kernel
theorem dX8_addSensor_71 : decode cX8_addSensor 71 = .ok (.invokespecial 34, 3) := by decide +kernel
theorem dX8_addSensor_74 : decode cX8_addSensor 74 = .ok (.athrow, 1) := by decide +kernel
theorem dX8_addSensor_75 : decode cX8_addSensor 75 = .ok (.aload_n 0, 1) := by decide +kernel
theorem dX8_addSensor_76 : decode cX8_addSensor 76 = .ok (.getfield 10, 3) := by decide +kernel
theorem dX8_addSensor_79 : decode cX8_addSensor 79 = .ok (.getfield 131, 3) := by decide +kernel
theorem dX8_addSensor_82 : decode cX8_addSensor 82 = .ok (.getfield 135, 3) := by decide +kernel
theorem dX8_addSensor_85 : decode cX8_addSensor 85 = .ok (.bipush 8, 2) := by decide +kernel
theorem dX8_addSensor_87 : decode cX8_addSensor 87 = .ok (.if_icmp .lt 13, 3) := by decide +kernel
theorem dX8_addSensor_90 : decode cX8_addSensor 90 = .ok (.new 140, 3) := by decide +kernel
theorem dX8_addSensor_93 : decode cX8_addSensor 93 = .ok (.dup, 1) := by decide +kernel
theorem dX8_addSensor_94 : decode cX8_addSensor 94 = .ok (.ldc 142, 2) := by decide +kernel
theorem dX8_addSensor_96 : decode cX8_addSensor 96 = .ok (.invokespecial 144, 3) := by decide +kernel
theorem dX8_addSensor_99 : decode cX8_addSensor 99 = .ok (.athrow, 1) := by decide +kernel
theorem dX8_addSensor_100 : decode cX8_addSensor 100 = .ok (.aload_n 0, 1) := by decide +kernel
theorem dX8_addSensor_101 : decode cX8_addSensor 101 = .ok (.getfield 22, 3) := by decide +kernel
theorem dX8_addSensor_104 : decode cX8_addSensor 104 = .ok (.aload_n 0, 1) := by decide +kernel
theorem dX8_addSensor_105 : decode cX8_addSensor 105 = .ok (.getfield 10, 3) := by decide +kernel
theorem dX8_addSensor_108 : decode cX8_addSensor 108 = .ok (.invokevirtual 47, 3) := by decide +kernel
theorem dX8_addSensor_111 : decode cX8_addSensor 111 = .ok (.aload_n 0, 1) := by decide +kernel
theorem dX8_addSensor_112 : decode cX8_addSensor 112 = .ok (.getfield 10, 3) := by decide +kernel
theorem dX8_addSensor_115 : decode cX8_addSensor 115 = .ok (.getfield 131, 3) := by decide +kernel
theorem dX8_addSensor_118 : decode cX8_addSensor 118 = .ok (.iload_n 1, 1) := by decide +kernel
theorem dX8_addSensor_119 : decode cX8_addSensor 119 = .ok (.iload_n 2, 1) := by decide +kernel
theorem dX8_addSensor_120 : decode cX8_addSensor 120 = .ok (.iload_n 3, 1) := by decide +kernel
theorem dX8_addSensor_121 : decode cX8_addSensor 121 = .ok (.iload 4, 2) := by decide +kernel
theorem dX8_addSensor_123 : decode cX8_addSensor 123 = .ok (.iload 5, 2) := by decide +kernel
theorem dX8_addSensor_125 : decode cX8_addSensor 125 = .ok (.invokevirtual 145, 3) := by decide +kernel
theorem dX8_addSensor_128 : decode cX8_addSensor 128 = .ok (.ireturn, 1) := by decide +kernel
set_option maxRecDepth 20000 in
theorem ggX8_setFault_X6_has : GoodIn wsX8_setFault wsX6_has := goodIn_r _ [13, 14, 124, 125, 126, 127, 128, 129, 130, 131] (by decide +kernel) (by decide +kernel)
set_option maxRecDepth 20000 in
theorem gX8_setFault_X6_has : GoodIn wsX8_setFault (wsV RX8 149 RX6 yX6_has wsX6_has) := goodIn_app (goodIn_of _ (by decide +kernel)) ggX8_setFault_X6_has
set_option maxRecDepth 20000 in
theorem ggX8_setFault_X8_isWithin : GoodIn wsX8_setFault wsX8_isWithin := goodIn_r _ [18] (by decide +kernel) (by decide +kernel)
set_option maxRecDepth 20000 in
theorem gX8_setFault_X8_isWithin : GoodIn wsX8_setFault (va_wsS RX8 26 yX8_isWithin wsX8_isWithin) := goodIn_app (goodIn_of _ (by decide +kernel)) ggX8_setFault_X8_isWithin
set_option maxRecDepth 20000 in
theorem ggX8_setFault_X4_keep : GoodIn wsX8_setFault wsX4_keep := goodIn_r _ [23, 24, 25, 26, 27, 28, 22, 29, 30, 31, 32, 33, 34, 35, 36, 37, 38, 39, 40, 41, 42, 43, 44, 45, 46, 47, 48, 49, 50, 51, 52, 17, 53, 54, 55, 56, 57, 58, 59, 60, 61, 62, 63, 64, 65, 66, 67, 68, 69, 70, 71, 72, 73, 74, 75, 12, 76, 14, 77, 78, 79, 80, 81, 82, 83, 84, 85, 86, 87, 88, 89, 90, 91, 92, 93, 94, 95, 96, 97, 98, 99, 100, 101, 102, 103, 104, 105, 106, 107, 108, 109, 110, 111, 112, 132, 133, 134, 116, 117, 118, 119, 120, 121, 122, 123, 135, 136, 137, 138, 139, 140, 141, 142, 143, 144, 124, 125, 126, 127, 128, 129, 130, 131, 145, 146, 147, 148, 149, 150, 151, 152, 153, 154, 155, 156, 157, 158] (by decide +kernel) (by decide +kernel)
set_option maxRecDepth 20000 in
theorem gX8_setFault_X4_keep : GoodIn wsX8_setFault (wsV RX8 47 RX4 yX4_keep wsX4_keep) := goodIn_app (goodIn_of _ (by decide +kernel)) ggX8_setFault_X4_keep
theorem dX8_setFault_0 : decode cX8_setFault 0 = .ok (.aload_n 0, 1) := by decide +kernel
theorem dX8_setFault_1 : decode cX8_setFault 1 = .ok (.getfield 10, 3) := by decide +kernel
theorem dX8_setFault_4 : decode cX8_setFault 4 = .ok (.getfield 131, 3) := by decide +kernel
theorem dX8_setFault_7 : decode cX8_setFault 7 = .ok (.iload_n 1, 1) := by decide +kernel
theorem dX8_setFault_8 : decode cX8_setFault 8 = .ok (.invokevirtual 149, 3) := by decide +kernel
theorem dX8_setFault_11 : decode cX8_setFault 11 = .ok (.ifCond .ne 13, 3) := by decide +kernel
theorem dX8_setFault_14 : decode cX8_setFault 14 = .ok (.new 59, 3) := by decide +kernel
theorem dX8_setFault_17 : decode cX8_setFault 17 = .ok (.dup, 1) := by decide +kernel
theorem dX8_setFault_18 : decode cX8_setFault 18 = .ok (.ldc 152, 2) := by decide +kernel
theorem dX8_setFault_20 : decode cX8_setFault 20 = .ok (.invokespecial 63, 3) := by decide +kernel
theorem dX8_setFault_23 : decode cX8_setFault 23 = .ok (.athrow, 1) := by decide +kernel
theorem dX8_setFault_24 : decode cX8_setFault 24 = .ok (.iload_n 2, 1) := by decide +kernel
theorem dX8_setFault_25 : decode cX8_setFault 25 = .ok (.iconst 0, 1) := by decide +kernel
theorem dX8_setFault_26 : decode cX8_setFault 26 = .ok (.iconst 2, 1) := by decide +kernel
theorem dX8_setFault_27 : decode cX8_setFault 27 = .ok (.invokestatic 26, 3) := by decide +kernel
theorem dX8_setFault_30 : decode cX8_setFault 30 = .ok (.ifCond .ne 13, 3) := by decide +kernel
theorem dX8_setFault_33 : decode cX8_setFault 33 = .ok (.new 30, 3) := by decide +kernel
theorem dX8_setFault_36 : decode cX8_setFault 36 = .ok (.dup, 1) := by decide +kernel
theorem dX8_setFault_37 : decode cX8_setFault 37 = .ok (.ldc 154, 2) := by decide +kernel
theorem dX8_setFault_39 : decode cX8_setFault 39 = .ok (.invokespecial 34, 3) := by decide +kernel
theorem dX8_setFault_42 : decode cX8_setFault 42 = .ok (.athrow, 1) := by decide +kernel
theorem dX8_setFault_43 : decode cX8_setFault 43 = .ok (.aload_n 0, 1) := by decide +kernel
theorem dX8_setFault_44 : decode cX8_setFault 44 = .ok (.getfield 10, 3) := by decide +kernel
theorem dX8_setFault_47 : decode cX8_setFault 47 = .ok (.getfield 131, 3) := by decide +kernel
theorem dX8_setFault_50 : decode cX8_setFault 50 = .ok (.getfield 156, 3) := by decide +kernel
theorem dX8_setFault_53 : decode cX8_setFault 53 = .ok (.iload_n 1, 1) := by decide +kernel
theorem dX8_setFault_54 : decode cX8_setFault 54 = .ok (.iaload, 1) := by decide +kernel
theorem dX8_setFault_55 : decode cX8_setFault 55 = .ok (.istore_n 3, 1) := by decide +kernel
theorem dX8_setFault_56 : decode cX8_setFault 56 = .ok (.aload_n 0, 1) := by decide +kernel
theorem dX8_setFault_57 : decode cX8_setFault 57 = .ok (.getfield 22, 3) := by decide +kernel
theorem dX8_setFault_60 : decode cX8_setFault 60 = .ok (.aload_n 0, 1) := by decide +kernel
theorem dX8_setFault_61 : decode cX8_setFault 61 = .ok (.getfield 10, 3) := by decide +kernel
theorem dX8_setFault_64 : decode cX8_setFault 64 = .ok (.invokevirtual 47, 3) := by decide +kernel
theorem dX8_setFault_67 : decode cX8_setFault 67 = .ok (.aload_n 0, 1) := by decide +kernel
theorem dX8_setFault_68 : decode cX8_setFault 68 = .ok (.getfield 10, 3) := by decide +kernel
theorem dX8_setFault_71 : decode cX8_setFault 71 = .ok (.getfield 131, 3) := by decide +kernel
theorem dX8_setFault_74 : decode cX8_setFault 74 = .ok (.getfield 156, 3) := by decide +kernel
theorem dX8_setFault_77 : decode cX8_setFault 77 = .ok (.iload_n 1, 1) := by decide +kernel
theorem dX8_setFault_78 : decode cX8_setFault 78 = .ok (.iload_n 2, 1) := by decide +kernel
theorem dX8_setFault_79 : decode cX8_setFault 79 = .ok (.iastore, 1) := by decide +kernel
theorem dX8_setFault_80 : decode cX8_setFault 80 = .ok (.iload_n 3, 1) := by decide +kernel
theorem dX8_setFault_81 : decode cX8_setFault 81 = .ok (.ireturn, 1) := by decide +kernel
set_option maxRecDepth 20000 in
theorem ggX8_sensor_X6_has : GoodIn wsX8_sensor wsX6_has := goodIn_r _ [11, 12, 75, 76, 77, 78, 79, 80, 81, 82] (by decide +kernel) (by decide +kernel)
set_option maxRecDepth 20000 in
theorem gX8_sensor_X6_has : GoodIn wsX8_sensor (wsV RX8 149 RX6 yX6_has wsX6_has) := goodIn_app (goodIn_of _ (by decide +kernel)) ggX8_sensor_X6_has
set_option maxRecDepth 20000 in
theorem ggX8_sensor_X8_isWithin : GoodIn wsX8_sensor wsX8_isWithin := goodIn_r _ [16] (by decide +kernel) (by decide +kernel)
set_option maxRecDepth 20000 in
theorem gX8_sensor_X8_isWithin : GoodIn wsX8_sensor (va_wsS RX8 26 yX8_isWithin wsX8_isWithin) := goodIn_app (goodIn_of _ (by decide +kernel)) ggX8_sensor_X8_isWithin
set_option maxRecDepth 20000 in
theorem ggX8_sensor_X7_aboutSensor : GoodIn wsX8_sensor wsX7_aboutSensor := goodIn_r _ [21, 22, 23, 24, 25, 26, 27, 28, 29, 30, 31, 32, 20, 33, 34, 35, 36, 37, 38, 39, 40, 41, 42, 43, 44, 45, 46, 47, 48, 49, 50, 51, 52, 53, 54, 55, 56, 57, 58, 59, 10, 60, 61, 62, 63, 67, 68, 69, 70, 71, 72, 73, 74, 75, 76, 77, 78, 79, 80, 81, 82, 83, 84, 85, 86, 87, 88, 89, 90, 91, 92] (by decide +kernel) (by decide +kernel)
set_option maxRecDepth 20000 in
theorem gX8_sensor_X7_aboutSensor : GoodIn wsX8_sensor (wsV RX8 161 RX7 yX7_aboutSensor wsX7_aboutSensor) := goodIn_app (goodIn_of _ (by decide +kernel)) ggX8_sensor_X7_aboutSensor
theorem dX8_sensor_0 : decode cX8_sensor 0 = .ok (.aload_n 0, 1) := by decide +kernel
theorem dX8_sensor_1 : decode cX8_sensor 1 = .ok (.getfield 10, 3) := by decide +kernel
theorem dX8_sensor_4 : decode cX8_sensor 4 = .ok (.getfield 131, 3) := by decide +kernel
theorem dX8_sensor_7 : decode cX8_sensor 7 = .ok (.iload_n 1, 1) := by decide +kernel
theorem dX8_sensor_8 : decode cX8_sensor 8 = .ok (.invokevirtual 149, 3) := by decide +kernel
theorem dX8_sensor_11 : decode cX8_sensor 11 = .ok (.ifCond .ne 13, 3) := by decide +kernel
theorem dX8_sensor_14 : decode cX8_sensor 14 = .ok (.new 59, 3) := by decide +kernel
theorem dX8_sensor_17 : decode cX8_sensor 17 = .ok (.dup, 1) := by decide +kernel
theorem dX8_sensor_18 : decode cX8_sensor 18 = .ok (.ldc 152, 2) := by decide +kernel
theorem dX8_sensor_20 : decode cX8_sensor 20 = .ok (.invokespecial 63, 3) := by decide +kernel
theorem dX8_sensor_23 : decode cX8_sensor 23 = .ok (.athrow, 1) := by decide +kernel
theorem dX8_sensor_24 : decode cX8_sensor 24 = .ok (.iload_n 2, 1) := by decide +kernel
theorem dX8_sensor_25 : decode cX8_sensor 25 = .ok (.iconst 0, 1) := by decide +kernel
theorem dX8_sensor_26 : decode cX8_sensor 26 = .ok (.bipush 8, 2) := by decide +kernel
theorem dX8_sensor_28 : decode cX8_sensor 28 = .ok (.invokestatic 26, 3) := by decide +kernel
theorem dX8_sensor_31 : decode cX8_sensor 31 = .ok (.ifCond .ne 13, 3) := by decide +kernel
theorem dX8_sensor_34 : decode cX8_sensor 34 = .ok (.new 30, 3) := by decide +kernel
theorem dX8_sensor_37 : decode cX8_sensor 37 = .ok (.dup, 1) := by decide +kernel
theorem dX8_sensor_38 : decode cX8_sensor 38 = .ok (.ldc 159, 2) := by decide +kernel
theorem dX8_sensor_40 : decode cX8_sensor 40 = .ok (.invokespecial 34, 3) := by decide +kernel
theorem dX8_sensor_43 : decode cX8_sensor 43 = .ok (.athrow, 1) := by decide +kernel
theorem dX8_sensor_44 : decode cX8_sensor 44 = .ok (.aload_n 0, 1) := by decide +kernel
theorem dX8_sensor_45 : decode cX8_sensor 45 = .ok (.getfield 10, 3) := by decide +kernel
theorem dX8_sensor_48 : decode cX8_sensor 48 = .ok (.iload_n 1, 1) := by decide +kernel
theorem dX8_sensor_49 : decode cX8_sensor 49 = .ok (.iload_n 2, 1) := by decide +kernel
theorem dX8_sensor_50 : decode cX8_sensor 50 = .ok (.invokevirtual 161, 3) := by decide +kernel
theorem dX8_sensor_53 : decode cX8_sensor 53 = .ok (.ireturn, 1) := by decide +kernel
set_option maxRecDepth 20000 in
theorem ggX8_addRule_X3_isRoom : GoodIn wsX8_addRule wsX3_isRoom := goodIn_r _ [16, 17, 136, 137, 138, 139] (by decide +kernel) (by decide +kernel)
set_option maxRecDepth 20000 in
theorem gX8_addRule_X3_isRoom : GoodIn wsX8_addRule (wsV RX8 112 RX3 yX3_isRoom wsX3_isRoom) := goodIn_app (goodIn_of _ (by decide +kernel)) ggX8_addRule_X3_isRoom
set_option maxRecDepth 20000 in
theorem ggX8_addRule_X8_isWithin : GoodIn wsX8_addRule wsX8_isWithin := goodIn_r _ [21] (by decide +kernel) (by decide +kernel)
set_option maxRecDepth 20000 in
theorem gX8_addRule_X8_isWithin : GoodIn wsX8_addRule (va_wsS RX8 26 yX8_isWithin wsX8_isWithin) := goodIn_app (goodIn_of _ (by decide +kernel)) ggX8_addRule_X8_isWithin
set_option maxRecDepth 20000 in
theorem ggX8_addRule_X4_keep : GoodIn wsX8_addRule wsX4_keep := goodIn_r _ [26, 27, 28, 29, 30, 31, 25, 32, 33, 34, 35, 36, 37, 38, 39, 40, 41, 42, 43, 44, 45, 46, 47, 48, 49, 15, 50, 17, 51, 52, 53, 20, 54, 55, 56, 57, 58, 59, 60, 61, 62, 63, 64, 65, 66, 67, 68, 69, 70, 71, 72, 73, 74, 75, 76, 77, 78, 79, 80, 81, 82, 83, 84, 85, 86, 87, 88, 89, 90, 91, 92, 93, 94, 95, 96, 97, 98, 99, 100, 101, 102, 103, 104, 105, 106, 107, 108, 109, 110, 111, 112, 113, 114, 115, 140, 141, 142, 123, 124, 125, 126, 127, 128, 129, 130, 136, 137, 138, 139, 143, 144, 145, 146, 147, 148, 149, 150, 151, 152, 153, 154, 155, 156, 157, 158, 159, 160, 131, 132, 133, 134, 135, 161, 162, 163, 164, 165] (by decide +kernel) (by decide +kernel)
set_option maxRecDepth 20000 in
theorem gX8_addRule_X4_keep : GoodIn wsX8_addRule (wsV RX8 47 RX4 yX4_keep wsX4_keep) := goodIn_app (goodIn_of _ (by decide +kernel)) ggX8_addRule_X4_keep
set_option maxRecDepth 20000 in
theorem ggX8_addRule_X5_append : GoodIn wsX8_addRule wsX5_append := goodIn_r _ [119, 101, 102, 103, 104, 105, 131, 132, 133, 134, 135] (by decide +kernel) (by decide +kernel)
set_option maxRecDepth 20000 in
theorem gX8_addRule_X5_append : GoodIn wsX8_addRule (wsV RX8 175 RX5 yX5_append wsX5_append) := goodIn_app (goodIn_of _ (by decide +kernel)) ggX8_addRule_X5_append
theorem dX8_addRule_0 : decode cX8_addRule 0 = .ok (.aload_n 0, 1) := by decide +kernel
theorem dX8_addRule_1 : decode cX8_addRule 1 = .ok (.getfield 10, 3) := by decide +kernel
theorem dX8_addRule_4 : decode cX8_addRule 4 = .ok (.getfield 37, 3) := by decide +kernel
theorem dX8_addRule_7 : decode cX8_addRule 7 = .ok (.iload_n 2, 1) := by decide +kernel
theorem dX8_addRule_8 : decode cX8_addRule 8 = .ok (.invokevirtual 112, 3) := by decide +kernel
theorem dX8_addRule_11 : decode cX8_addRule 11 = .ok (.ifCond .ne 13, 3) := by decide +kernel
theorem dX8_addRule_14 : decode cX8_addRule 14 = .ok (.new 59, 3) := by decide +kernel
theorem dX8_addRule_17 : decode cX8_addRule 17 = .ok (.dup, 1) := by decide +kernel
theorem dX8_addRule_18 : decode cX8_addRule 18 = .ok (.ldc 61, 2) := by decide +kernel
theorem dX8_addRule_20 : decode cX8_addRule 20 = .ok (.invokespecial 63, 3) := by decide +kernel
theorem dX8_addRule_23 : decode cX8_addRule 23 = .ok (.athrow, 1) := by decide +kernel
theorem dX8_addRule_24 : decode cX8_addRule 24 = .ok (.iload_n 1, 1) := by decide +kernel
theorem dX8_addRule_25 : decode cX8_addRule 25 = .ok (.iconst 0, 1) := by decide +kernel
theorem dX8_addRule_26 : decode cX8_addRule 26 = .ok (.iconst 3, 1) := by decide +kernel
theorem dX8_addRule_27 : decode cX8_addRule 27 = .ok (.invokestatic 26, 3) := by decide +kernel
theorem dX8_addRule_30 : decode cX8_addRule 30 = .ok (.ifCond .eq 25, 3) := by decide +kernel
theorem dX8_addRule_33 : decode cX8_addRule 33 = .ok (.iload_n 3, 1) := by decide +kernel
theorem dX8_addRule_34 : decode cX8_addRule 34 = .ok (.iconst 0, 1) := by decide +kernel
theorem dX8_addRule_35 : decode cX8_addRule 35 = .ok (.sipush 9999, 3) := by decide +kernel
theorem dX8_addRule_38 : decode cX8_addRule 38 = .ok (.invokestatic 26, 3) := by decide +kernel
theorem dX8_addRule_41 : decode cX8_addRule 41 = .ok (.ifCond .eq 14, 3) := by decide +kernel
theorem dX8_addRule_44 : decode cX8_addRule 44 = .ok (.iload 4, 2) := by decide +kernel
theorem dX8_addRule_46 : decode cX8_addRule 46 = .ok (.iconst 0, 1) := by decide +kernel
theorem dX8_addRule_47 : decode cX8_addRule 47 = .ok (.bipush 8, 2) := by decide +kernel
theorem dX8_addRule_49 : decode cX8_addRule 49 = .ok (.invokestatic 26, 3) := by decide +kernel
theorem dX8_addRule_52 : decode cX8_addRule 52 = .ok (.ifCond .ne 13, 3) := by decide +kernel
theorem dX8_addRule_55 : decode cX8_addRule 55 = .ok (.new 30, 3) := by decide +kernel
theorem dX8_addRule_58 : decode cX8_addRule 58 = .ok (.dup, 1) := by decide +kernel
theorem dX8_addRule_59 : decode cX8_addRule 59 = .ok (.ldc 164, 2) := by decide +kernel
theorem dX8_addRule_61 : decode cX8_addRule 61 = .ok (.invokespecial 34, 3) := by decide +kernel
theorem dX8_addRule_64 : decode cX8_addRule 64 = .ok (.athrow, 1) := by decide +kernel
theorem dX8_addRule_65 : decode cX8_addRule 65 = .ok (.aload_n 0, 1) := by decide +kernel
theorem dX8_addRule_66 : decode cX8_addRule 66 = .ok (.getfield 10, 3) := by decide +kernel
theorem dX8_addRule_69 : decode cX8_addRule 69 = .ok (.getfield 166, 3) := by decide +kernel
theorem dX8_addRule_72 : decode cX8_addRule 72 = .ok (.getfield 170, 3) := by decide +kernel
theorem dX8_addRule_75 : decode cX8_addRule 75 = .ok (.bipush 8, 2) := by decide +kernel
theorem dX8_addRule_77 : decode cX8_addRule 77 = .ok (.if_icmp .lt 13, 3) := by decide +kernel
theorem dX8_addRule_80 : decode cX8_addRule 80 = .ok (.new 140, 3) := by decide +kernel
theorem dX8_addRule_83 : decode cX8_addRule 83 = .ok (.dup, 1) := by decide +kernel
theorem dX8_addRule_84 : decode cX8_addRule 84 = .ok (.ldc 173, 2) := by decide +kernel
theorem dX8_addRule_86 : decode cX8_addRule 86 = .ok (.invokespecial 144, 3) := by decide +kernel
theorem dX8_addRule_89 : decode cX8_addRule 89 = .ok (.athrow, 1) := by decide +kernel
theorem dX8_addRule_90 : decode cX8_addRule 90 = .ok (.aload_n 0, 1) := by decide +kernel
theorem dX8_addRule_91 : decode cX8_addRule 91 = .ok (.getfield 22, 3) := by decide +kernel
theorem dX8_addRule_94 : decode cX8_addRule 94 = .ok (.aload_n 0, 1) := by decide +kernel
theorem dX8_addRule_95 : decode cX8_addRule 95 = .ok (.getfield 10, 3) := by decide +kernel
theorem dX8_addRule_98 : decode cX8_addRule 98 = .ok (.invokevirtual 47, 3) := by decide +kernel
theorem dX8_addRule_101 : decode cX8_addRule 101 = .ok (.aload_n 0, 1) := by decide +kernel
theorem dX8_addRule_102 : decode cX8_addRule 102 = .ok (.getfield 10, 3) := by decide +kernel
theorem dX8_addRule_105 : decode cX8_addRule 105 = .ok (.getfield 166, 3) := by decide +kernel
theorem dX8_addRule_108 : decode cX8_addRule 108 = .ok (.iload_n 1, 1) := by decide +kernel
theorem dX8_addRule_109 : decode cX8_addRule 109 = .ok (.iload_n 2, 1) := by decide +kernel
theorem dX8_addRule_110 : decode cX8_addRule 110 = .ok (.iload_n 3, 1) := by decide +kernel
theorem dX8_addRule_111 : decode cX8_addRule 111 = .ok (.iload 4, 2) := by decide +kernel
theorem dX8_addRule_113 : decode cX8_addRule 113 = .ok (.invokevirtual 175, 3) := by decide +kernel
theorem dX8_addRule_116 : decode cX8_addRule 116 = .ok (.ireturn, 1) := by decide +kernel
set_option maxRecDepth 20000 in
theorem ggX8_removeRule_X5_has : GoodIn wsX8_removeRule wsX5_has := goodIn_r _ [11, 12, 123, 124, 125, 126, 127] (by decide +kernel) (by decide +kernel)
set_option maxRecDepth 20000 in
theorem gX8_removeRule_X5_has : GoodIn wsX8_removeRule (wsV RX8 178 RX5 yX5_has wsX5_has) := goodIn_app (goodIn_of _ (by decide +kernel)) ggX8_removeRule_X5_has
set_option maxRecDepth 20000 in
theorem ggX8_removeRule_X4_keep : GoodIn wsX8_removeRule wsX4_keep := goodIn_r _ [17, 18, 19, 20, 21, 22, 16, 23, 24, 25, 26, 27, 28, 29, 30, 31, 32, 33, 34, 35, 36, 37, 38, 39, 40, 41, 42, 43, 44, 45, 46, 47, 48, 49, 50, 51, 52, 53, 54, 55, 56, 57, 58, 59, 60, 61, 62, 63, 64, 65, 66, 67, 68, 69, 70, 71, 72, 73, 74, 75, 76, 77, 78, 79, 80, 81, 82, 83, 84, 85, 86, 87, 88, 89, 90, 91, 92, 10, 93, 12, 94, 95, 96, 97, 98, 99, 100, 101, 102, 103, 104, 105, 106, 107, 128, 129, 130, 115, 116, 117, 118, 119, 120, 121, 122, 131, 132, 133, 134, 135, 136, 137, 138, 139, 140, 141, 142, 143, 144, 145, 146, 147, 148, 149, 150, 151, 152, 123, 124, 125, 126, 127, 153, 154, 155, 156, 157] (by decide +kernel) (by decide +kernel)
set_option maxRecDepth 20000 in
theorem gX8_removeRule_X4_keep : GoodIn wsX8_removeRule (wsV RX8 47 RX4 yX4_keep wsX4_keep) := goodIn_app (goodIn_of _ (by decide +kernel)) ggX8_removeRule_X4_keep
set_option maxRecDepth 20000 in
theorem ggX8_removeRule_X5_drop : GoodIn wsX8_removeRule wsX5_drop := goodIn_r _ [111, 12, 94, 95, 96, 97, 123, 124, 125, 126, 127] (by decide +kernel) (by decide +kernel)
set_option maxRecDepth 20000 in
theorem gX8_removeRule_X5_drop : GoodIn wsX8_removeRule (wsV RX8 181 RX5 yX5_drop wsX5_drop) := goodIn_app (goodIn_of _ (by decide +kernel)) ggX8_removeRule_X5_drop
theorem dX8_removeRule_0 : decode cX8_removeRule 0 = .ok (.aload_n 0, 1) := by decide +kernel
theorem dX8_removeRule_1 : decode cX8_removeRule 1 = .ok (.getfield 10, 3) := by decide +kernel
theorem dX8_removeRule_4 : decode cX8_removeRule 4 = .ok (.getfield 166, 3) := by decide +kernel
theorem dX8_removeRule_7 : decode cX8_removeRule 7 = .ok (.iload_n 1, 1) := by decide +kernel
theorem dX8_removeRule_8 : decode cX8_removeRule 8 = .ok (.invokevirtual 178, 3) := by decide +kernel
theorem dX8_removeRule_11 : decode cX8_removeRule 11 = .ok (.ifCond .ne 13, 3) := by decide +kernel
theorem dX8_removeRule_14 : decode cX8_removeRule 14 = .ok (.new 59, 3) := by decide +kernel
theorem dX8_removeRule_17 : decode cX8_removeRule 17 = .ok (.dup, 1) := by decide +kernel
theorem dX8_removeRule_18 : decode cX8_removeRule 18 = .ok (.ldc 179, 2) := by decide +kernel
theorem dX8_removeRule_20 : decode cX8_removeRule 20 = .ok (.invokespecial 63, 3) := by decide +kernel
theorem dX8_removeRule_23 : decode cX8_removeRule 23 = .ok (.athrow, 1) := by decide +kernel
theorem dX8_removeRule_24 : decode cX8_removeRule 24 = .ok (.aload_n 0, 1) := by decide +kernel
theorem dX8_removeRule_25 : decode cX8_removeRule 25 = .ok (.getfield 22, 3) := by decide +kernel
theorem dX8_removeRule_28 : decode cX8_removeRule 28 = .ok (.aload_n 0, 1) := by decide +kernel
theorem dX8_removeRule_29 : decode cX8_removeRule 29 = .ok (.getfield 10, 3) := by decide +kernel
theorem dX8_removeRule_32 : decode cX8_removeRule 32 = .ok (.invokevirtual 47, 3) := by decide +kernel
theorem dX8_removeRule_35 : decode cX8_removeRule 35 = .ok (.aload_n 0, 1) := by decide +kernel
theorem dX8_removeRule_36 : decode cX8_removeRule 36 = .ok (.getfield 10, 3) := by decide +kernel
theorem dX8_removeRule_39 : decode cX8_removeRule 39 = .ok (.getfield 166, 3) := by decide +kernel
theorem dX8_removeRule_42 : decode cX8_removeRule 42 = .ok (.iload_n 1, 1) := by decide +kernel
theorem dX8_removeRule_43 : decode cX8_removeRule 43 = .ok (.invokevirtual 181, 3) := by decide +kernel
theorem dX8_removeRule_46 : decode cX8_removeRule 46 = .ok (.aload_n 0, 1) := by decide +kernel
theorem dX8_removeRule_47 : decode cX8_removeRule 47 = .ok (.getfield 10, 3) := by decide +kernel
theorem dX8_removeRule_50 : decode cX8_removeRule 50 = .ok (.getfield 166, 3) := by decide +kernel
theorem dX8_removeRule_53 : decode cX8_removeRule 53 = .ok (.getfield 170, 3) := by decide +kernel
theorem dX8_removeRule_56 : decode cX8_removeRule 56 = .ok (.ireturn, 1) := by decide +kernel
set_option maxRecDepth 20000 in
theorem ggX8_applying_X7_firstRule : GoodIn wsX8_applying wsX7_firstRule := goodIn_r _ [6, 7, 8, 9, 10, 11, 5, 12, 13, 14, 15, 16, 17, 18, 19, 20, 21, 22, 23, 24, 25, 26, 27, 28, 29, 30, 31, 32, 33, 34, 35, 36, 37, 38, 39, 40, 41, 42, 43, 44, 45, 46, 47, 48, 49, 53, 54, 55, 56, 57, 58, 59, 60, 61, 62, 63, 64, 65, 66, 67, 68, 69, 70, 71, 72, 73, 74, 75, 76, 77, 78, 79] (by decide +kernel) (by decide +kernel)
set_option maxRecDepth 20000 in
theorem gX8_applying_X7_firstRule : GoodIn wsX8_applying (wsV RX8 184 RX7 yX7_firstRule wsX7_firstRule) := goodIn_app (goodIn_of _ (by decide +kernel)) ggX8_applying_X7_firstRule
theorem dX8_applying_0 : decode cX8_applying 0 = .ok (.aload_n 0, 1) := by decide +kernel
theorem dX8_applying_1 : decode cX8_applying 1 = .ok (.getfield 10, 3) := by decide +kernel
theorem dX8_applying_4 : decode cX8_applying 4 = .ok (.invokevirtual 184, 3) := by decide +kernel
theorem dX8_applying_7 : decode cX8_applying 7 = .ok (.ireturn, 1) := by decide +kernel
set_option maxRecDepth 20000 in
theorem ggX8_addEvent_X8_isWithin : GoodIn wsX8_addEvent wsX8_isWithin := goodIn_r _ [13] (by decide +kernel) (by decide +kernel)
set_option maxRecDepth 20000 in
theorem gX8_addEvent_X8_isWithin : GoodIn wsX8_addEvent (va_wsS RX8 26 yX8_isWithin wsX8_isWithin) := goodIn_app (goodIn_of _ (by decide +kernel)) ggX8_addEvent_X8_isWithin
set_option maxRecDepth 20000 in
theorem ggX8_addEvent_X7_allowsEvent : GoodIn wsX8_addEvent wsX7_allowsEvent := goodIn_r _ [18, 19, 20, 21, 22, 23, 24, 25, 26, 27, 28, 29, 30, 11, 12, 13, 31, 32, 33, 34, 35, 36, 137, 138, 139, 140, 141, 142, 143, 144, 150, 151, 152, 153, 154, 155, 156, 157, 158, 159, 160, 161] (by decide +kernel) (by decide +kernel)
set_option maxRecDepth 20000 in
theorem gX8_addEvent_X7_allowsEvent : GoodIn wsX8_addEvent (wsV RX8 193 RX7 yX7_allowsEvent wsX7_allowsEvent) := goodIn_app (goodIn_of _ (by decide +kernel)) ggX8_addEvent_X7_allowsEvent
set_option maxRecDepth 20000 in
theorem ggX8_addEvent_X4_keep : GoodIn wsX8_addEvent wsX4_keep := goodIn_r _ [41, 42, 43, 44, 45, 46, 40, 47, 48, 49, 50, 51, 17, 52, 53, 19, 54, 20, 55, 56, 57, 58, 59, 60, 61, 24, 62, 26, 63, 64, 65, 12, 66, 67, 68, 69, 70, 71, 72, 73, 74, 75, 76, 77, 78, 79, 80, 81, 82, 83, 84, 85, 86, 87, 88, 34, 89, 36, 90, 91, 92, 93, 94, 95, 96, 97, 98, 99, 100, 101, 102, 103, 104, 105, 106, 107, 108, 109, 110, 111, 112, 113, 114, 115, 116, 117, 118, 119, 120, 121, 122, 123, 124, 125, 162, 163, 164, 137, 138, 139, 140, 141, 142, 143, 144, 150, 151, 152, 153, 165, 166, 167, 168, 169, 170, 154, 155, 156, 157, 158, 159, 160, 161, 171, 172, 173, 174, 175, 176, 177, 178, 179, 145, 146, 147, 148, 149] (by decide +kernel) (by decide +kernel)
set_option maxRecDepth 20000 in
theorem gX8_addEvent_X4_keep : GoodIn wsX8_addEvent (wsV RX8 47 RX4 yX4_keep wsX4_keep) := goodIn_app (goodIn_of _ (by decide +kernel)) ggX8_addEvent_X4_keep
set_option maxRecDepth 20000 in
theorem ggX8_addEvent_X1_insert : GoodIn wsX8_addEvent wsX1_insert := goodIn_r _ [129, 121, 122, 123, 124, 125, 130, 131, 132, 119, 133, 145, 146, 147, 148, 149] (by decide +kernel) (by decide +kernel)
set_option maxRecDepth 20000 in
theorem gX8_addEvent_X1_insert : GoodIn wsX8_addEvent (wsV RX8 207 RX1 yX1_insert wsX1_insert) := goodIn_app (goodIn_of _ (by decide +kernel)) ggX8_addEvent_X1_insert
theorem dX8_addEvent_0 : decode cX8_addEvent 0 = .ok (.iload_n 1, 1) := by decide +kernel
theorem dX8_addEvent_1 : decode cX8_addEvent 1 = .ok (.aload_n 0, 1) := by decide +kernel
theorem dX8_addEvent_2 : decode cX8_addEvent 2 = .ok (.getfield 10, 3) := by decide +kernel
theorem dX8_addEvent_5 : decode cX8_addEvent 5 = .ok (.getfield 188, 3) := by decide +kernel
theorem dX8_addEvent_8 : decode cX8_addEvent 8 = .ok (.iconst 1, 1) := by decide +kernel
theorem dX8_addEvent_9 : decode cX8_addEvent 9 = .ok (.iadd, 1) := by decide +kernel
theorem dX8_addEvent_10 : decode cX8_addEvent 10 = .ok (.aload_n 0, 1) := by decide +kernel
theorem dX8_addEvent_11 : decode cX8_addEvent 11 = .ok (.getfield 10, 3) := by decide +kernel
theorem dX8_addEvent_14 : decode cX8_addEvent 14 = .ok (.getfield 188, 3) := by decide +kernel
theorem dX8_addEvent_17 : decode cX8_addEvent 17 = .ok (.sipush 999, 3) := by decide +kernel
theorem dX8_addEvent_20 : decode cX8_addEvent 20 = .ok (.iadd, 1) := by decide +kernel
theorem dX8_addEvent_21 : decode cX8_addEvent 21 = .ok (.invokestatic 26, 3) := by decide +kernel
theorem dX8_addEvent_24 : decode cX8_addEvent 24 = .ok (.ifCond .ne 13, 3) := by decide +kernel
theorem dX8_addEvent_27 : decode cX8_addEvent 27 = .ok (.new 30, 3) := by decide +kernel
theorem dX8_addEvent_30 : decode cX8_addEvent 30 = .ok (.dup, 1) := by decide +kernel
theorem dX8_addEvent_31 : decode cX8_addEvent 31 = .ok (.ldc 191, 2) := by decide +kernel
theorem dX8_addEvent_33 : decode cX8_addEvent 33 = .ok (.invokespecial 34, 3) := by decide +kernel
theorem dX8_addEvent_36 : decode cX8_addEvent 36 = .ok (.athrow, 1) := by decide +kernel
theorem dX8_addEvent_37 : decode cX8_addEvent 37 = .ok (.aload_n 0, 1) := by decide +kernel
theorem dX8_addEvent_38 : decode cX8_addEvent 38 = .ok (.getfield 10, 3) := by decide +kernel
theorem dX8_addEvent_41 : decode cX8_addEvent 41 = .ok (.iload_n 2, 1) := by decide +kernel
theorem dX8_addEvent_42 : decode cX8_addEvent 42 = .ok (.iload_n 3, 1) := by decide +kernel
theorem dX8_addEvent_43 : decode cX8_addEvent 43 = .ok (.iload 4, 2) := by decide +kernel
theorem dX8_addEvent_45 : decode cX8_addEvent 45 = .ok (.invokevirtual 193, 3) := by decide +kernel
theorem dX8_addEvent_48 : decode cX8_addEvent 48 = .ok (.ifCond .ne 13, 3) := by decide +kernel
theorem dX8_addEvent_51 : decode cX8_addEvent 51 = .ok (.new 30, 3) := by decide +kernel
theorem dX8_addEvent_54 : decode cX8_addEvent 54 = .ok (.dup, 1) := by decide +kernel
theorem dX8_addEvent_55 : decode cX8_addEvent 55 = .ok (.ldc 196, 2) := by decide +kernel
theorem dX8_addEvent_57 : decode cX8_addEvent 57 = .ok (.invokespecial 34, 3) := by decide +kernel
theorem dX8_addEvent_60 : decode cX8_addEvent 60 = .ok (.athrow, 1) := by decide +kernel
theorem dX8_addEvent_61 : decode cX8_addEvent 61 = .ok (.aload_n 0, 1) := by decide +kernel
theorem dX8_addEvent_62 : decode cX8_addEvent 62 = .ok (.getfield 10, 3) := by decide +kernel
theorem dX8_addEvent_65 : decode cX8_addEvent 65 = .ok (.getfield 198, 3) := by decide +kernel
theorem dX8_addEvent_68 : decode cX8_addEvent 68 = .ok (.getfield 202, 3) := by decide +kernel
theorem dX8_addEvent_71 : decode cX8_addEvent 71 = .ok (.bipush 20, 2) := by decide +kernel
theorem dX8_addEvent_73 : decode cX8_addEvent 73 = .ok (.if_icmp .lt 13, 3) := by decide +kernel
theorem dX8_addEvent_76 : decode cX8_addEvent 76 = .ok (.new 140, 3) := by decide +kernel
theorem dX8_addEvent_79 : decode cX8_addEvent 79 = .ok (.dup, 1) := by decide +kernel
theorem dX8_addEvent_80 : decode cX8_addEvent 80 = .ok (.ldc 205, 2) := by decide +kernel
theorem dX8_addEvent_82 : decode cX8_addEvent 82 = .ok (.invokespecial 144, 3) := by decide +kernel
theorem dX8_addEvent_85 : decode cX8_addEvent 85 = .ok (.athrow, 1) := by decide +kernel
theorem dX8_addEvent_86 : decode cX8_addEvent 86 = .ok (.aload_n 0, 1) := by decide +kernel
theorem dX8_addEvent_87 : decode cX8_addEvent 87 = .ok (.getfield 22, 3) := by decide +kernel
theorem dX8_addEvent_90 : decode cX8_addEvent 90 = .ok (.aload_n 0, 1) := by decide +kernel
theorem dX8_addEvent_91 : decode cX8_addEvent 91 = .ok (.getfield 10, 3) := by decide +kernel
theorem dX8_addEvent_94 : decode cX8_addEvent 94 = .ok (.invokevirtual 47, 3) := by decide +kernel
theorem dX8_addEvent_97 : decode cX8_addEvent 97 = .ok (.aload_n 0, 1) := by decide +kernel
theorem dX8_addEvent_98 : decode cX8_addEvent 98 = .ok (.getfield 10, 3) := by decide +kernel
theorem dX8_addEvent_101 : decode cX8_addEvent 101 = .ok (.getfield 198, 3) := by decide +kernel
theorem dX8_addEvent_104 : decode cX8_addEvent 104 = .ok (.iload_n 1, 1) := by decide +kernel
theorem dX8_addEvent_105 : decode cX8_addEvent 105 = .ok (.iload_n 2, 1) := by decide +kernel
theorem dX8_addEvent_106 : decode cX8_addEvent 106 = .ok (.iload_n 3, 1) := by decide +kernel
theorem dX8_addEvent_107 : decode cX8_addEvent 107 = .ok (.iload 4, 2) := by decide +kernel
theorem dX8_addEvent_109 : decode cX8_addEvent 109 = .ok (.invokevirtual 207, 3) := by decide +kernel
theorem dX8_addEvent_112 : decode cX8_addEvent 112 = .ok (.aload_n 0, 1) := by decide +kernel
theorem dX8_addEvent_113 : decode cX8_addEvent 113 = .ok (.getfield 10, 3) := by decide +kernel
theorem dX8_addEvent_116 : decode cX8_addEvent 116 = .ok (.getfield 198, 3) := by decide +kernel
theorem dX8_addEvent_119 : decode cX8_addEvent 119 = .ok (.getfield 202, 3) := by decide +kernel
theorem dX8_addEvent_122 : decode cX8_addEvent 122 = .ok (.ireturn, 1) := by decide +kernel
set_option maxRecDepth 20000 in
theorem ggX8_event_X8_isWithin : GoodIn wsX8_event wsX8_isWithin := goodIn_r _ [8] (by decide +kernel) (by decide +kernel)
set_option maxRecDepth 20000 in
theorem gX8_event_X8_isWithin : GoodIn wsX8_event (va_wsS RX8 26 yX8_isWithin wsX8_isWithin) := goodIn_app (goodIn_of _ (by decide +kernel)) ggX8_event_X8_isWithin
set_option maxRecDepth 20000 in
theorem ggX8_event_X1_has : GoodIn wsX8_event wsX1_has := goodIn_r _ [13, 14, 34, 35, 36, 37, 38] (by decide +kernel) (by decide +kernel)
set_option maxRecDepth 20000 in
theorem gX8_event_X1_has : GoodIn wsX8_event (wsV RX8 213 RX1 yX1_has wsX1_has) := goodIn_app (goodIn_of _ (by decide +kernel)) ggX8_event_X1_has
set_option maxRecDepth 20000 in
theorem ggX8_event_X1_about : GoodIn wsX8_event wsX1_about := goodIn_r _ [18, 19, 20, 21, 22, 34, 35, 36, 37, 38] (by decide +kernel) (by decide +kernel)
set_option maxRecDepth 20000 in
theorem gX8_event_X1_about : GoodIn wsX8_event (wsV RX8 214 RX1 yX1_about wsX1_about) := goodIn_app (goodIn_of _ (by decide +kernel)) ggX8_event_X1_about
theorem dX8_event_0 : decode cX8_event 0 = .ok (.iload_n 2, 1) := by decide +kernel
theorem dX8_event_1 : decode cX8_event 1 = .ok (.iconst 0, 1) := by decide +kernel
theorem dX8_event_2 : decode cX8_event 2 = .ok (.iconst 3, 1) := by decide +kernel
theorem dX8_event_3 : decode cX8_event 3 = .ok (.invokestatic 26, 3) := by decide +kernel
theorem dX8_event_6 : decode cX8_event 6 = .ok (.ifCond .ne 13, 3) := by decide +kernel
theorem dX8_event_9 : decode cX8_event 9 = .ok (.new 30, 3) := by decide +kernel
theorem dX8_event_12 : decode cX8_event 12 = .ok (.dup, 1) := by decide +kernel
theorem dX8_event_13 : decode cX8_event 13 = .ok (.ldc 211, 2) := by decide +kernel
theorem dX8_event_15 : decode cX8_event 15 = .ok (.invokespecial 34, 3) := by decide +kernel
theorem dX8_event_18 : decode cX8_event 18 = .ok (.athrow, 1) := by decide +kernel
theorem dX8_event_19 : decode cX8_event 19 = .ok (.aload_n 0, 1) := by decide +kernel
theorem dX8_event_20 : decode cX8_event 20 = .ok (.getfield 10, 3) := by decide +kernel
theorem dX8_event_23 : decode cX8_event 23 = .ok (.getfield 198, 3) := by decide +kernel
theorem dX8_event_26 : decode cX8_event 26 = .ok (.iload_n 1, 1) := by decide +kernel
theorem dX8_event_27 : decode cX8_event 27 = .ok (.invokevirtual 213, 3) := by decide +kernel
theorem dX8_event_30 : decode cX8_event 30 = .ok (.ifCond .eq 18, 3) := by decide +kernel
theorem dX8_event_33 : decode cX8_event 33 = .ok (.aload_n 0, 1) := by decide +kernel
theorem dX8_event_34 : decode cX8_event 34 = .ok (.getfield 10, 3) := by decide +kernel
theorem dX8_event_37 : decode cX8_event 37 = .ok (.getfield 198, 3) := by decide +kernel
theorem dX8_event_40 : decode cX8_event 40 = .ok (.iload_n 1, 1) := by decide +kernel
theorem dX8_event_41 : decode cX8_event 41 = .ok (.iload_n 2, 1) := by decide +kernel
theorem dX8_event_42 : decode cX8_event 42 = .ok (.invokevirtual 214, 3) := by decide +kernel
theorem dX8_event_45 : decode cX8_event 45 = .ok (.goto 4, 3) := by decide +kernel
theorem dX8_event_48 : decode cX8_event 48 = .ok (.iconst (-1), 1) := by decide +kernel
theorem dX8_event_49 : decode cX8_event 49 = .ok (.ireturn, 1) := by decide +kernel
set_option maxRecDepth 20000 in
theorem ggX8_mute_X3_isRoom : GoodIn wsX8_mute wsX3_isRoom := goodIn_r _ [14, 15, 129, 130, 131, 132] (by decide +kernel) (by decide +kernel)
set_option maxRecDepth 20000 in
theorem gX8_mute_X3_isRoom : GoodIn wsX8_mute (wsV RX8 112 RX3 yX3_isRoom wsX3_isRoom) := goodIn_app (goodIn_of _ (by decide +kernel)) ggX8_mute_X3_isRoom
set_option maxRecDepth 20000 in
theorem ggX8_mute_X8_isWithin : GoodIn wsX8_mute wsX8_isWithin := goodIn_r _ [19] (by decide +kernel) (by decide +kernel)
set_option maxRecDepth 20000 in
theorem gX8_mute_X8_isWithin : GoodIn wsX8_mute (va_wsS RX8 26 yX8_isWithin wsX8_isWithin) := goodIn_app (goodIn_of _ (by decide +kernel)) ggX8_mute_X8_isWithin
set_option maxRecDepth 20000 in
theorem ggX8_mute_X4_keep : GoodIn wsX8_mute wsX4_keep := goodIn_r _ [24, 25, 26, 27, 28, 29, 23, 30, 31, 32, 33, 34, 35, 36, 37, 38, 39, 40, 41, 42, 43, 44, 45, 46, 47, 13, 48, 15, 49, 50, 51, 18, 52, 53, 54, 55, 56, 57, 58, 59, 60, 61, 62, 63, 64, 65, 66, 67, 68, 69, 70, 71, 72, 73, 74, 75, 76, 77, 78, 79, 80, 81, 82, 83, 84, 85, 86, 87, 88, 89, 90, 91, 92, 93, 94, 95, 96, 97, 98, 99, 100, 101, 102, 103, 104, 105, 106, 107, 108, 109, 110, 111, 112, 113, 133, 134, 135, 117, 118, 119, 120, 121, 122, 123, 124, 129, 130, 131, 132, 136, 137, 138, 139, 140, 141, 142, 143, 144, 145, 146, 147, 148, 149, 125, 126, 127, 128, 150, 151, 152, 153, 154, 155, 156, 157, 158, 159] (by decide +kernel) (by decide +kernel)
set_option maxRecDepth 20000 in
theorem gX8_mute_X4_keep : GoodIn wsX8_mute (wsV RX8 47 RX4 yX4_keep wsX4_keep) := goodIn_app (goodIn_of _ (by decide +kernel)) ggX8_mute_X4_keep
theorem dX8_mute_0 : decode cX8_mute 0 = .ok (.aload_n 0, 1) := by decide +kernel
theorem dX8_mute_1 : decode cX8_mute 1 = .ok (.getfield 10, 3) := by decide +kernel
theorem dX8_mute_4 : decode cX8_mute 4 = .ok (.getfield 37, 3) := by decide +kernel
theorem dX8_mute_7 : decode cX8_mute 7 = .ok (.iload_n 1, 1) := by decide +kernel
theorem dX8_mute_8 : decode cX8_mute 8 = .ok (.invokevirtual 112, 3) := by decide +kernel
theorem dX8_mute_11 : decode cX8_mute 11 = .ok (.ifCond .ne 13, 3) := by decide +kernel
theorem dX8_mute_14 : decode cX8_mute 14 = .ok (.new 59, 3) := by decide +kernel
theorem dX8_mute_17 : decode cX8_mute 17 = .ok (.dup, 1) := by decide +kernel
theorem dX8_mute_18 : decode cX8_mute 18 = .ok (.ldc 61, 2) := by decide +kernel
theorem dX8_mute_20 : decode cX8_mute 20 = .ok (.invokespecial 63, 3) := by decide +kernel
theorem dX8_mute_23 : decode cX8_mute 23 = .ok (.athrow, 1) := by decide +kernel
theorem dX8_mute_24 : decode cX8_mute 24 = .ok (.iload_n 2, 1) := by decide +kernel
theorem dX8_mute_25 : decode cX8_mute 25 = .ok (.iconst 0, 1) := by decide +kernel
theorem dX8_mute_26 : decode cX8_mute 26 = .ok (.bipush 60, 2) := by decide +kernel
theorem dX8_mute_28 : decode cX8_mute 28 = .ok (.invokestatic 26, 3) := by decide +kernel
theorem dX8_mute_31 : decode cX8_mute 31 = .ok (.ifCond .ne 13, 3) := by decide +kernel
theorem dX8_mute_34 : decode cX8_mute 34 = .ok (.new 30, 3) := by decide +kernel
theorem dX8_mute_37 : decode cX8_mute 37 = .ok (.dup, 1) := by decide +kernel
theorem dX8_mute_38 : decode cX8_mute 38 = .ok (.ldc 217, 2) := by decide +kernel
theorem dX8_mute_40 : decode cX8_mute 40 = .ok (.invokespecial 34, 3) := by decide +kernel
theorem dX8_mute_43 : decode cX8_mute 43 = .ok (.athrow, 1) := by decide +kernel
theorem dX8_mute_44 : decode cX8_mute 44 = .ok (.aload_n 0, 1) := by decide +kernel
theorem dX8_mute_45 : decode cX8_mute 45 = .ok (.getfield 10, 3) := by decide +kernel
theorem dX8_mute_48 : decode cX8_mute 48 = .ok (.getfield 219, 3) := by decide +kernel
theorem dX8_mute_51 : decode cX8_mute 51 = .ok (.getfield 223, 3) := by decide +kernel
theorem dX8_mute_54 : decode cX8_mute 54 = .ok (.iload_n 1, 1) := by decide +kernel
theorem dX8_mute_55 : decode cX8_mute 55 = .ok (.iaload, 1) := by decide +kernel
theorem dX8_mute_56 : decode cX8_mute 56 = .ok (.istore_n 3, 1) := by decide +kernel
theorem dX8_mute_57 : decode cX8_mute 57 = .ok (.aload_n 0, 1) := by decide +kernel
theorem dX8_mute_58 : decode cX8_mute 58 = .ok (.getfield 22, 3) := by decide +kernel
theorem dX8_mute_61 : decode cX8_mute 61 = .ok (.aload_n 0, 1) := by decide +kernel
theorem dX8_mute_62 : decode cX8_mute 62 = .ok (.getfield 10, 3) := by decide +kernel
theorem dX8_mute_65 : decode cX8_mute 65 = .ok (.invokevirtual 47, 3) := by decide +kernel
theorem dX8_mute_68 : decode cX8_mute 68 = .ok (.aload_n 0, 1) := by decide +kernel
theorem dX8_mute_69 : decode cX8_mute 69 = .ok (.getfield 10, 3) := by decide +kernel
theorem dX8_mute_72 : decode cX8_mute 72 = .ok (.getfield 219, 3) := by decide +kernel
theorem dX8_mute_75 : decode cX8_mute 75 = .ok (.getfield 223, 3) := by decide +kernel
theorem dX8_mute_78 : decode cX8_mute 78 = .ok (.iload_n 1, 1) := by decide +kernel
theorem dX8_mute_79 : decode cX8_mute 79 = .ok (.iload_n 2, 1) := by decide +kernel
theorem dX8_mute_80 : decode cX8_mute 80 = .ok (.iastore, 1) := by decide +kernel
theorem dX8_mute_81 : decode cX8_mute 81 = .ok (.iload_n 3, 1) := by decide +kernel
theorem dX8_mute_82 : decode cX8_mute 82 = .ok (.ireturn, 1) := by decide +kernel
set_option maxRecDepth 20000 in
theorem ggX8_pass_X8_isWithin : GoodIn wsX8_pass wsX8_isWithin := goodIn_r _ [8] (by decide +kernel) (by decide +kernel)
set_option maxRecDepth 20000 in
theorem gX8_pass_X8_isWithin : GoodIn wsX8_pass (va_wsS RX8 26 yX8_isWithin wsX8_isWithin) := goodIn_app (goodIn_of _ (by decide +kernel)) ggX8_pass_X8_isWithin
set_option maxRecDepth 20000 in
theorem ggX8_pass_X4_keep : GoodIn wsX8_pass wsX4_keep := goodIn_r _ [13, 14, 15, 16, 17, 18, 12, 19, 20, 21, 22, 23, 24, 25, 26, 27, 28, 29, 30, 31, 32, 33, 34, 35, 36, 37, 38, 39, 40, 41, 42, 7, 43, 44, 45, 46, 47, 48, 49, 50, 51, 52, 53, 54, 55, 56, 57, 58, 59, 60, 61, 62, 63, 64, 65, 66, 67, 68, 69, 70, 71, 72, 73, 74, 75, 76, 77, 78, 79, 80, 81, 82, 83, 84, 85, 86, 87, 88, 89, 90, 91, 92, 93, 94, 95, 96, 97, 98, 99, 100, 101, 102, 103, 104, 276, 277, 278, 279, 280, 281, 282, 283, 284, 285, 286, 287, 288, 289, 290, 291, 292, 293, 294, 295, 296, 297, 298, 299, 300, 301, 302, 303, 304, 305, 306, 307, 308, 309, 310, 311, 312, 313, 314, 315, 316, 317, 318] (by decide +kernel) (by decide +kernel)
set_option maxRecDepth 20000 in
theorem gX8_pass_X4_keep : GoodIn wsX8_pass (wsV RX8 47 RX4 yX4_keep wsX4_keep) := goodIn_app (goodIn_of _ (by decide +kernel)) ggX8_pass_X4_keep
set_option maxRecDepth 20000 in
theorem ggX8_pass_X7_letMinutePass : GoodIn wsX8_pass wsX7_letMinutePass := goodIn_r _ [108, 26, 28, 33, 27, 29, 109, 110, 111, 112, 24, 113, 32, 114, 115, 116, 98, 117, 100, 101, 118, 119, 120, 121, 122, 123, 124, 125, 126, 127, 128, 129, 130, 37, 131, 40, 132, 133, 134, 135, 136, 137, 55, 138, 57, 139, 45, 46, 47, 140, 141, 142, 66, 143, 68, 144, 145, 146, 147, 148, 149, 150, 151, 102, 103, 104, 152, 153, 154, 155, 156, 157, 158, 159, 60, 160, 161, 162, 58, 163, 164, 165, 166, 167, 168, 169, 170, 171, 172, 59, 173, 174, 175, 176, 39, 177, 41, 178, 179, 180, 181, 182, 183, 184, 185, 186, 187, 188, 189, 190, 191, 192, 193, 194, 195, 196, 197, 198, 199, 200, 201, 202, 203, 75, 204, 205, 206, 207, 208, 209, 30, 210, 211, 212, 79, 213, 83, 84, 214, 215, 216, 217, 218, 219, 220, 221, 222, 69, 223, 224, 225, 226, 74, 72, 227, 228, 229, 230, 231, 232, 233, 234, 235, 236, 237, 73, 238, 239, 240, 241, 242, 82, 243, 244, 245, 246, 31, 247, 248, 249, 250, 251, 252, 253, 254, 255, 256, 257, 258, 259, 260, 261, 262, 263, 264, 265, 266, 267, 88, 268, 90, 269, 270, 271, 272, 62, 61, 279, 280, 281, 282, 283, 284, 285, 286, 297, 298, 299, 300, 301, 302, 303, 304, 314, 315, 316, 317, 318, 291, 292, 293, 294, 295, 296, 287, 288, 289, 290, 305, 306, 307, 308, 309, 310, 311, 312, 313] (by decide +kernel) (by decide +kernel)
set_option maxRecDepth 20000 in
theorem gX8_pass_X7_letMinutePass : GoodIn wsX8_pass (wsV RX8 230 RX7 yX7_letMinutePass wsX7_letMinutePass) := goodIn_app (goodIn_of _ (by decide +kernel)) ggX8_pass_X7_letMinutePass
theorem dX8_pass_0 : decode cX8_pass 0 = .ok (.iload_n 1, 1) := by decide +kernel
theorem dX8_pass_1 : decode cX8_pass 1 = .ok (.iconst 1, 1) := by decide +kernel
theorem dX8_pass_2 : decode cX8_pass 2 = .ok (.bipush 60, 2) := by decide +kernel
theorem dX8_pass_4 : decode cX8_pass 4 = .ok (.invokestatic 26, 3) := by decide +kernel
theorem dX8_pass_7 : decode cX8_pass 7 = .ok (.ifCond .ne 13, 3) := by decide +kernel
theorem dX8_pass_10 : decode cX8_pass 10 = .ok (.new 30, 3) := by decide +kernel
theorem dX8_pass_13 : decode cX8_pass 13 = .ok (.dup, 1) := by decide +kernel
theorem dX8_pass_14 : decode cX8_pass 14 = .ok (.ldc 228, 2) := by decide +kernel
theorem dX8_pass_16 : decode cX8_pass 16 = .ok (.invokespecial 34, 3) := by decide +kernel
theorem dX8_pass_19 : decode cX8_pass 19 = .ok (.athrow, 1) := by decide +kernel
theorem dX8_pass_20 : decode cX8_pass 20 = .ok (.aload_n 0, 1) := by decide +kernel
theorem dX8_pass_21 : decode cX8_pass 21 = .ok (.getfield 22, 3) := by decide +kernel
theorem dX8_pass_24 : decode cX8_pass 24 = .ok (.aload_n 0, 1) := by decide +kernel
theorem dX8_pass_25 : decode cX8_pass 25 = .ok (.getfield 10, 3) := by decide +kernel
theorem dX8_pass_28 : decode cX8_pass 28 = .ok (.invokevirtual 47, 3) := by decide +kernel
theorem dX8_pass_31 : decode cX8_pass 31 = .ok (.iconst 0, 1) := by decide +kernel
theorem dX8_pass_32 : decode cX8_pass 32 = .ok (.istore_n 2, 1) := by decide +kernel
theorem dX8_pass_33 : decode cX8_pass 33 = .ok (.iconst 0, 1) := by decide +kernel
theorem dX8_pass_34 : decode cX8_pass 34 = .ok (.istore_n 3, 1) := by decide +kernel
theorem dX8_pass_35 : decode cX8_pass 35 = .ok (.iload_n 3, 1) := by decide +kernel
theorem dX8_pass_36 : decode cX8_pass 36 = .ok (.iload_n 1, 1) := by decide +kernel
theorem dX8_pass_37 : decode cX8_pass 37 = .ok (.if_icmp .ge 19, 3) := by decide +kernel
theorem dX8_pass_40 : decode cX8_pass 40 = .ok (.iload_n 2, 1) := by decide +kernel
theorem dX8_pass_41 : decode cX8_pass 41 = .ok (.aload_n 0, 1) := by decide +kernel
theorem dX8_pass_42 : decode cX8_pass 42 = .ok (.getfield 10, 3) := by decide +kernel
theorem dX8_pass_45 : decode cX8_pass 45 = .ok (.invokevirtual 230, 3) := by decide +kernel
theorem dX8_pass_48 : decode cX8_pass 48 = .ok (.iadd, 1) := by decide +kernel
theorem dX8_pass_49 : decode cX8_pass 49 = .ok (.istore_n 2, 1) := by decide +kernel
theorem dX8_pass_50 : decode cX8_pass 50 = .ok (.iinc 3 1, 3) := by decide +kernel
theorem dX8_pass_53 : decode cX8_pass 53 = .ok (.goto (-18), 3) := by decide +kernel
theorem dX8_pass_56 : decode cX8_pass 56 = .ok (.iload_n 2, 1) := by decide +kernel
theorem dX8_pass_57 : decode cX8_pass 57 = .ok (.ireturn, 1) := by decide +kernel
set_option maxRecDepth 20000 in
theorem ggX8_told_X8_isWithin : GoodIn wsX8_told wsX8_isWithin := goodIn_r _ [8] (by decide +kernel) (by decide +kernel)
set_option maxRecDepth 20000 in
theorem gX8_told_X8_isWithin : GoodIn wsX8_told (va_wsS RX8 26 yX8_isWithin wsX8_isWithin) := goodIn_app (goodIn_of _ (by decide +kernel)) ggX8_told_X8_isWithin
theorem dX8_told_0 : decode cX8_told 0 = .ok (.iload_n 1, 1) := by decide +kernel
theorem dX8_told_1 : decode cX8_told 1 = .ok (.iconst 0, 1) := by decide +kernel
theorem dX8_told_2 : decode cX8_told 2 = .ok (.iconst 5, 1) := by decide +kernel
theorem dX8_told_3 : decode cX8_told 3 = .ok (.invokestatic 26, 3) := by decide +kernel
theorem dX8_told_6 : decode cX8_told 6 = .ok (.ifCond .ne 13, 3) := by decide +kernel
theorem dX8_told_9 : decode cX8_told 9 = .ok (.new 30, 3) := by decide +kernel
theorem dX8_told_12 : decode cX8_told 12 = .ok (.dup, 1) := by decide +kernel
theorem dX8_told_13 : decode cX8_told 13 = .ok (.ldc 93, 2) := by decide +kernel
theorem dX8_told_15 : decode cX8_told 15 = .ok (.invokespecial 34, 3) := by decide +kernel
theorem dX8_told_18 : decode cX8_told 18 = .ok (.athrow, 1) := by decide +kernel
theorem dX8_told_19 : decode cX8_told 19 = .ok (.aload_n 0, 1) := by decide +kernel
theorem dX8_told_20 : decode cX8_told 20 = .ok (.getfield 10, 3) := by decide +kernel
theorem dX8_told_23 : decode cX8_told 23 = .ok (.getfield 233, 3) := by decide +kernel
theorem dX8_told_26 : decode cX8_told 26 = .ok (.iload_n 1, 1) := by decide +kernel
theorem dX8_told_27 : decode cX8_told 27 = .ok (.iaload, 1) := by decide +kernel
theorem dX8_told_28 : decode cX8_told 28 = .ok (.ireturn, 1) := by decide +kernel
set_option maxRecDepth 20000 in
theorem ggX8_alarmIn_X3_isRoom : GoodIn wsX8_alarmIn wsX3_isRoom := goodIn_r _ [13, 14, 282, 283, 284, 285] (by decide +kernel) (by decide +kernel)
set_option maxRecDepth 20000 in
theorem gX8_alarmIn_X3_isRoom : GoodIn wsX8_alarmIn (wsV RX8 112 RX3 yX3_isRoom wsX3_isRoom) := goodIn_app (goodIn_of _ (by decide +kernel)) ggX8_alarmIn_X3_isRoom
set_option maxRecDepth 20000 in
theorem ggX8_alarmIn_X8_isWithin : GoodIn wsX8_alarmIn wsX8_isWithin := goodIn_r _ [18] (by decide +kernel) (by decide +kernel)
set_option maxRecDepth 20000 in
theorem gX8_alarmIn_X8_isWithin : GoodIn wsX8_alarmIn (va_wsS RX8 26 yX8_isWithin wsX8_isWithin) := goodIn_app (goodIn_of _ (by decide +kernel)) ggX8_alarmIn_X8_isWithin
set_option maxRecDepth 20000 in
theorem ggX8_alarmIn_X0_soundsIn : GoodIn wsX8_alarmIn wsX0_soundsIn := goodIn_r _ [23, 24, 25, 286, 287, 288, 289] (by decide +kernel) (by decide +kernel)
set_option maxRecDepth 20000 in
theorem gX8_alarmIn_X0_soundsIn : GoodIn wsX8_alarmIn (wsV RX8 238 RX0 yX0_soundsIn wsX0_soundsIn) := goodIn_app (goodIn_of _ (by decide +kernel)) ggX8_alarmIn_X0_soundsIn
set_option maxRecDepth 20000 in
theorem ggX8_alarmIn_X7_copyFrom : GoodIn wsX8_alarmIn wsX7_copyFrom := goodIn_r _ [30, 31, 32, 33, 34, 35, 36, 37, 38, 39, 40, 41, 12, 42, 14, 43, 44, 45, 17, 46, 47, 48, 49, 50, 51, 52, 53, 54, 55, 56, 57, 58, 59, 60, 61, 62, 63, 64, 65, 66, 67, 68, 69, 70, 71, 72, 73, 74, 75, 76, 77, 78, 79, 80, 81, 22, 82, 83, 84, 24, 25, 85, 86, 87, 88, 89, 90, 91, 92, 93, 94, 95, 96, 97, 98, 99, 100, 101, 102, 103, 104, 274, 275, 276, 277, 278, 279, 280, 281, 282, 283, 284, 285, 290, 291, 292, 293, 294, 295, 296, 297, 298, 299, 300, 301, 302, 303, 286, 287, 288, 289, 304, 305, 306, 307, 308, 309, 310, 311, 312, 313] (by decide +kernel) (by decide +kernel)
set_option maxRecDepth 20000 in
theorem gX8_alarmIn_X7_copyFrom : GoodIn wsX8_alarmIn (wsV RX8 241 RX7 yX7_copyFrom wsX7_copyFrom) := goodIn_app (goodIn_of _ (by decide +kernel)) ggX8_alarmIn_X7_copyFrom
set_option maxRecDepth 20000 in
theorem ggX8_alarmIn_X8_firstAlarm : GoodIn wsX8_alarmIn wsX8_firstAlarm := goodIn_r _ [108, 8, 7, 109, 110, 111, 29, 112, 31, 33, 38, 32, 34, 113, 114, 115, 116, 117, 37, 118, 119, 120, 98, 121, 100, 101, 122, 123, 124, 125, 126, 127, 128, 129, 130, 131, 132, 133, 134, 12, 135, 43, 136, 137, 138, 139, 140, 141, 58, 142, 60, 143, 48, 49, 50, 144, 145, 146, 69, 147, 71, 148, 149, 150, 151, 152, 153, 154, 155, 102, 103, 104, 156, 157, 158, 159, 160, 161, 162, 163, 63, 164, 165, 166, 61, 167, 168, 169, 170, 171, 172, 173, 174, 175, 176, 62, 177, 178, 179, 180, 14, 181, 44, 182, 183, 184, 185, 186, 187, 188, 189, 190, 191, 192, 193, 194, 195, 196, 197, 198, 199, 200, 201, 202, 203, 204, 205, 206, 207, 78, 208, 209, 210, 211, 212, 213, 35, 214, 20, 21, 22, 23, 24, 25, 215, 216, 217, 218, 219, 220, 221, 222, 223, 72, 224, 225, 226, 227, 77, 75, 228, 229, 230, 231, 232, 233, 234, 235, 236, 237, 238, 76, 239, 240, 241, 242, 243, 84, 244, 245, 246, 247, 36, 248, 249, 250, 251, 252, 253, 254, 255, 256, 257, 258, 259, 260, 261, 262, 10, 11, 13, 263, 264, 265, 88, 266, 90, 267, 268, 269, 270, 65, 64, 19, 271, 272, 273, 274, 275, 276, 277, 278, 279, 280, 281, 296, 297, 298, 299, 300, 301, 302, 303, 309, 310, 311, 312, 313, 290, 291, 292, 293, 294, 295, 282, 283, 284, 285, 286, 287, 288, 289, 304, 305, 306, 307, 308] (by decide +kernel) (by decide +kernel)
set_option maxRecDepth 20000 in
theorem gX8_alarmIn_X8_firstAlarm : GoodIn wsX8_alarmIn (wsV RX8 244 RX8 yX8_firstAlarm wsX8_firstAlarm) := goodIn_app (goodIn_of _ (by decide +kernel)) ggX8_alarmIn_X8_firstAlarm
theorem dX8_alarmIn_0 : decode cX8_alarmIn 0 = .ok (.aload_n 0, 1) := by decide +kernel
theorem dX8_alarmIn_1 : decode cX8_alarmIn 1 = .ok (.getfield 10, 3) := by decide +kernel
theorem dX8_alarmIn_4 : decode cX8_alarmIn 4 = .ok (.getfield 37, 3) := by decide +kernel
theorem dX8_alarmIn_7 : decode cX8_alarmIn 7 = .ok (.iload_n 1, 1) := by decide +kernel
theorem dX8_alarmIn_8 : decode cX8_alarmIn 8 = .ok (.invokevirtual 112, 3) := by decide +kernel
theorem dX8_alarmIn_11 : decode cX8_alarmIn 11 = .ok (.ifCond .ne 13, 3) := by decide +kernel
theorem dX8_alarmIn_14 : decode cX8_alarmIn 14 = .ok (.new 59, 3) := by decide +kernel
theorem dX8_alarmIn_17 : decode cX8_alarmIn 17 = .ok (.dup, 1) := by decide +kernel
theorem dX8_alarmIn_18 : decode cX8_alarmIn 18 = .ok (.ldc 61, 2) := by decide +kernel
theorem dX8_alarmIn_20 : decode cX8_alarmIn 20 = .ok (.invokespecial 63, 3) := by decide +kernel
theorem dX8_alarmIn_23 : decode cX8_alarmIn 23 = .ok (.athrow, 1) := by decide +kernel
theorem dX8_alarmIn_24 : decode cX8_alarmIn 24 = .ok (.iload_n 2, 1) := by decide +kernel
theorem dX8_alarmIn_25 : decode cX8_alarmIn 25 = .ok (.iconst 1, 1) := by decide +kernel
theorem dX8_alarmIn_26 : decode cX8_alarmIn 26 = .ok (.sipush 200, 3) := by decide +kernel
theorem dX8_alarmIn_29 : decode cX8_alarmIn 29 = .ok (.invokestatic 26, 3) := by decide +kernel
theorem dX8_alarmIn_32 : decode cX8_alarmIn 32 = .ok (.ifCond .ne 13, 3) := by decide +kernel
theorem dX8_alarmIn_35 : decode cX8_alarmIn 35 = .ok (.new 30, 3) := by decide +kernel
theorem dX8_alarmIn_38 : decode cX8_alarmIn 38 = .ok (.dup, 1) := by decide +kernel
theorem dX8_alarmIn_39 : decode cX8_alarmIn 39 = .ok (.ldc 236, 2) := by decide +kernel
theorem dX8_alarmIn_41 : decode cX8_alarmIn 41 = .ok (.invokespecial 34, 3) := by decide +kernel
theorem dX8_alarmIn_44 : decode cX8_alarmIn 44 = .ok (.athrow, 1) := by decide +kernel
theorem dX8_alarmIn_45 : decode cX8_alarmIn 45 = .ok (.aload_n 0, 1) := by decide +kernel
theorem dX8_alarmIn_46 : decode cX8_alarmIn 46 = .ok (.getfield 10, 3) := by decide +kernel
theorem dX8_alarmIn_49 : decode cX8_alarmIn 49 = .ok (.getfield 219, 3) := by decide +kernel
theorem dX8_alarmIn_52 : decode cX8_alarmIn 52 = .ok (.iload_n 1, 1) := by decide +kernel
theorem dX8_alarmIn_53 : decode cX8_alarmIn 53 = .ok (.invokevirtual 238, 3) := by decide +kernel
theorem dX8_alarmIn_56 : decode cX8_alarmIn 56 = .ok (.ifCond .eq 5, 3) := by decide +kernel
theorem dX8_alarmIn_59 : decode cX8_alarmIn 59 = .ok (.iconst 0, 1) := by decide +kernel
theorem dX8_alarmIn_60 : decode cX8_alarmIn 60 = .ok (.ireturn, 1) := by decide +kernel
theorem dX8_alarmIn_61 : decode cX8_alarmIn 61 = .ok (.aload_n 0, 1) := by decide +kernel
theorem dX8_alarmIn_62 : decode cX8_alarmIn 62 = .ok (.getfield 16, 3) := by decide +kernel
theorem dX8_alarmIn_65 : decode cX8_alarmIn 65 = .ok (.aload_n 0, 1) := by decide +kernel
theorem dX8_alarmIn_66 : decode cX8_alarmIn 66 = .ok (.getfield 10, 3) := by decide +kernel
theorem dX8_alarmIn_69 : decode cX8_alarmIn 69 = .ok (.invokevirtual 241, 3) := by decide +kernel
theorem dX8_alarmIn_72 : decode cX8_alarmIn 72 = .ok (.aload_n 0, 1) := by decide +kernel
theorem dX8_alarmIn_73 : decode cX8_alarmIn 73 = .ok (.iload_n 1, 1) := by decide +kernel
theorem dX8_alarmIn_74 : decode cX8_alarmIn 74 = .ok (.iload_n 2, 1) := by decide +kernel
theorem dX8_alarmIn_75 : decode cX8_alarmIn 75 = .ok (.invokevirtual 244, 3) := by decide +kernel
theorem dX8_alarmIn_78 : decode cX8_alarmIn 78 = .ok (.ireturn, 1) := by decide +kernel
set_option maxRecDepth 20000 in
theorem ggX8_smokeAfter_X3_isRoom : GoodIn wsX8_smokeAfter wsX3_isRoom := goodIn_r _ [13, 14, 277, 278, 279, 280] (by decide +kernel) (by decide +kernel)
set_option maxRecDepth 20000 in
theorem gX8_smokeAfter_X3_isRoom : GoodIn wsX8_smokeAfter (wsV RX8 112 RX3 yX3_isRoom wsX3_isRoom) := goodIn_app (goodIn_of _ (by decide +kernel)) ggX8_smokeAfter_X3_isRoom
set_option maxRecDepth 20000 in
theorem ggX8_smokeAfter_X8_isWithin : GoodIn wsX8_smokeAfter wsX8_isWithin := goodIn_r _ [18] (by decide +kernel) (by decide +kernel)
set_option maxRecDepth 20000 in
theorem gX8_smokeAfter_X8_isWithin : GoodIn wsX8_smokeAfter (va_wsS RX8 26 yX8_isWithin wsX8_isWithin) := goodIn_app (goodIn_of _ (by decide +kernel)) ggX8_smokeAfter_X8_isWithin
set_option maxRecDepth 20000 in
theorem ggX8_smokeAfter_X7_copyFrom : GoodIn wsX8_smokeAfter wsX7_copyFrom := goodIn_r _ [23, 24, 25, 26, 27, 28, 29, 30, 31, 32, 33, 34, 12, 35, 14, 36, 37, 38, 17, 39, 40, 41, 42, 43, 44, 45, 46, 47, 48, 49, 50, 51, 52, 53, 54, 55, 56, 57, 58, 59, 60, 61, 62, 63, 64, 65, 66, 67, 68, 69, 70, 71, 72, 73, 74, 75, 76, 77, 78, 79, 80, 81, 82, 83, 84, 85, 86, 87, 88, 89, 90, 91, 92, 93, 94, 95, 96, 97, 98, 99, 100, 269, 270, 271, 272, 273, 274, 275, 276, 277, 278, 279, 280, 281, 282, 283, 284, 285, 286, 287, 288, 289, 290, 291, 292, 293, 294, 295, 296, 297, 298, 299, 300, 301, 302, 303, 304, 305, 306, 307, 308] (by decide +kernel) (by decide +kernel)
set_option maxRecDepth 20000 in
theorem gX8_smokeAfter_X7_copyFrom : GoodIn wsX8_smokeAfter (wsV RX8 241 RX7 yX7_copyFrom wsX7_copyFrom) := goodIn_app (goodIn_of _ (by decide +kernel)) ggX8_smokeAfter_X7_copyFrom
set_option maxRecDepth 20000 in
theorem ggX8_smokeAfter_X7_letMinutePass : GoodIn wsX8_smokeAfter wsX7_letMinutePass := goodIn_r _ [104, 24, 26, 31, 25, 27, 105, 106, 107, 108, 22, 109, 30, 110, 111, 112, 94, 113, 96, 97, 114, 115, 116, 117, 118, 119, 120, 121, 122, 123, 124, 125, 126, 12, 127, 36, 128, 129, 130, 131, 132, 133, 51, 134, 53, 135, 41, 42, 43, 136, 137, 138, 62, 139, 64, 140, 141, 142, 143, 144, 145, 146, 147, 98, 99, 100, 148, 149, 150, 151, 152, 153, 154, 155, 56, 156, 157, 158, 54, 159, 160, 161, 162, 163, 164, 165, 166, 167, 168, 55, 169, 170, 171, 172, 14, 173, 37, 174, 175, 176, 177, 178, 179, 180, 181, 182, 183, 184, 185, 186, 187, 188, 189, 190, 191, 192, 193, 194, 195, 196, 197, 198, 199, 71, 200, 201, 202, 203, 204, 205, 28, 206, 207, 208, 75, 209, 79, 80, 210, 211, 212, 213, 214, 215, 216, 217, 218, 65, 219, 220, 221, 222, 70, 68, 223, 224, 225, 226, 227, 228, 229, 230, 231, 232, 233, 69, 234, 235, 236, 237, 238, 78, 239, 240, 241, 242, 29, 243, 244, 245, 246, 247, 248, 249, 250, 251, 252, 253, 254, 255, 256, 257, 10, 11, 13, 258, 259, 260, 84, 261, 86, 262, 263, 264, 265, 58, 57, 269, 270, 271, 272, 273, 274, 275, 276, 287, 288, 289, 290, 291, 292, 293, 294, 304, 305, 306, 307, 308, 281, 282, 283, 284, 285, 286, 277, 278, 279, 280, 295, 296, 297, 298, 299, 300, 301, 302, 303] (by decide +kernel) (by decide +kernel)
set_option maxRecDepth 20000 in
theorem gX8_smokeAfter_X7_letMinutePass : GoodIn wsX8_smokeAfter (wsV RX8 230 RX7 yX7_letMinutePass wsX7_letMinutePass) := goodIn_app (goodIn_of _ (by decide +kernel)) ggX8_smokeAfter_X7_letMinutePass
theorem dX8_smokeAfter_0 : decode cX8_smokeAfter 0 = .ok (.aload_n 0, 1) := by decide +kernel
theorem dX8_smokeAfter_1 : decode cX8_smokeAfter 1 = .ok (.getfield 10, 3) := by decide +kernel
theorem dX8_smokeAfter_4 : decode cX8_smokeAfter 4 = .ok (.getfield 37, 3) := by decide +kernel
theorem dX8_smokeAfter_7 : decode cX8_smokeAfter 7 = .ok (.iload_n 1, 1) := by decide +kernel
theorem dX8_smokeAfter_8 : decode cX8_smokeAfter 8 = .ok (.invokevirtual 112, 3) := by decide +kernel
theorem dX8_smokeAfter_11 : decode cX8_smokeAfter 11 = .ok (.ifCond .ne 13, 3) := by decide +kernel
theorem dX8_smokeAfter_14 : decode cX8_smokeAfter 14 = .ok (.new 59, 3) := by decide +kernel
theorem dX8_smokeAfter_17 : decode cX8_smokeAfter 17 = .ok (.dup, 1) := by decide +kernel
theorem dX8_smokeAfter_18 : decode cX8_smokeAfter 18 = .ok (.ldc 61, 2) := by decide +kernel
theorem dX8_smokeAfter_20 : decode cX8_smokeAfter 20 = .ok (.invokespecial 63, 3) := by decide +kernel
theorem dX8_smokeAfter_23 : decode cX8_smokeAfter 23 = .ok (.athrow, 1) := by decide +kernel
theorem dX8_smokeAfter_24 : decode cX8_smokeAfter 24 = .ok (.iload_n 2, 1) := by decide +kernel
theorem dX8_smokeAfter_25 : decode cX8_smokeAfter 25 = .ok (.iconst 1, 1) := by decide +kernel
theorem dX8_smokeAfter_26 : decode cX8_smokeAfter 26 = .ok (.sipush 200, 3) := by decide +kernel
theorem dX8_smokeAfter_29 : decode cX8_smokeAfter 29 = .ok (.invokestatic 26, 3) := by decide +kernel
theorem dX8_smokeAfter_32 : decode cX8_smokeAfter 32 = .ok (.ifCond .ne 13, 3) := by decide +kernel
theorem dX8_smokeAfter_35 : decode cX8_smokeAfter 35 = .ok (.new 30, 3) := by decide +kernel
theorem dX8_smokeAfter_38 : decode cX8_smokeAfter 38 = .ok (.dup, 1) := by decide +kernel
theorem dX8_smokeAfter_39 : decode cX8_smokeAfter 39 = .ok (.ldc 247, 2) := by decide +kernel
theorem dX8_smokeAfter_41 : decode cX8_smokeAfter 41 = .ok (.invokespecial 34, 3) := by decide +kernel
theorem dX8_smokeAfter_44 : decode cX8_smokeAfter 44 = .ok (.athrow, 1) := by decide +kernel
theorem dX8_smokeAfter_45 : decode cX8_smokeAfter 45 = .ok (.aload_n 0, 1) := by decide +kernel
theorem dX8_smokeAfter_46 : decode cX8_smokeAfter 46 = .ok (.getfield 16, 3) := by decide +kernel
theorem dX8_smokeAfter_49 : decode cX8_smokeAfter 49 = .ok (.aload_n 0, 1) := by decide +kernel
theorem dX8_smokeAfter_50 : decode cX8_smokeAfter 50 = .ok (.getfield 10, 3) := by decide +kernel
theorem dX8_smokeAfter_53 : decode cX8_smokeAfter 53 = .ok (.invokevirtual 241, 3) := by decide +kernel
theorem dX8_smokeAfter_56 : decode cX8_smokeAfter 56 = .ok (.iconst 0, 1) := by decide +kernel
theorem dX8_smokeAfter_57 : decode cX8_smokeAfter 57 = .ok (.istore_n 3, 1) := by decide +kernel
theorem dX8_smokeAfter_58 : decode cX8_smokeAfter 58 = .ok (.iload_n 3, 1) := by decide +kernel
theorem dX8_smokeAfter_59 : decode cX8_smokeAfter 59 = .ok (.iload_n 2, 1) := by decide +kernel
theorem dX8_smokeAfter_60 : decode cX8_smokeAfter 60 = .ok (.if_icmp .ge 17, 3) := by decide +kernel
theorem dX8_smokeAfter_63 : decode cX8_smokeAfter 63 = .ok (.aload_n 0, 1) := by decide +kernel
theorem dX8_smokeAfter_64 : decode cX8_smokeAfter 64 = .ok (.getfield 16, 3) := by decide +kernel
theorem dX8_smokeAfter_67 : decode cX8_smokeAfter 67 = .ok (.invokevirtual 230, 3) := by decide +kernel
theorem dX8_smokeAfter_70 : decode cX8_smokeAfter 70 = .ok (.pop, 1) := by decide +kernel
theorem dX8_smokeAfter_71 : decode cX8_smokeAfter 71 = .ok (.iinc 3 1, 3) := by decide +kernel
theorem dX8_smokeAfter_74 : decode cX8_smokeAfter 74 = .ok (.goto (-16), 3) := by decide +kernel
theorem dX8_smokeAfter_77 : decode cX8_smokeAfter 77 = .ok (.aload_n 0, 1) := by decide +kernel
theorem dX8_smokeAfter_78 : decode cX8_smokeAfter 78 = .ok (.getfield 16, 3) := by decide +kernel
theorem dX8_smokeAfter_81 : decode cX8_smokeAfter 81 = .ok (.getfield 37, 3) := by decide +kernel
theorem dX8_smokeAfter_84 : decode cX8_smokeAfter 84 = .ok (.getfield 118, 3) := by decide +kernel
theorem dX8_smokeAfter_87 : decode cX8_smokeAfter 87 = .ok (.iload_n 1, 1) := by decide +kernel
theorem dX8_smokeAfter_88 : decode cX8_smokeAfter 88 = .ok (.iaload, 1) := by decide +kernel
theorem dX8_smokeAfter_89 : decode cX8_smokeAfter 89 = .ok (.ireturn, 1) := by decide +kernel
set_option maxRecDepth 20000 in
theorem ggX8_peak_X3_isRoom : GoodIn wsX8_peak wsX3_isRoom := goodIn_r _ [11, 12, 290, 291, 292, 293] (by decide +kernel) (by decide +kernel)
set_option maxRecDepth 20000 in
theorem gX8_peak_X3_isRoom : GoodIn wsX8_peak (wsV RX8 112 RX3 yX3_isRoom wsX3_isRoom) := goodIn_app (goodIn_of _ (by decide +kernel)) ggX8_peak_X3_isRoom
set_option maxRecDepth 20000 in
theorem ggX8_peak_X8_isWithin : GoodIn wsX8_peak wsX8_isWithin := goodIn_r _ [16] (by decide +kernel) (by decide +kernel)
set_option maxRecDepth 20000 in
theorem gX8_peak_X8_isWithin : GoodIn wsX8_peak (va_wsS RX8 26 yX8_isWithin wsX8_isWithin) := goodIn_app (goodIn_of _ (by decide +kernel)) ggX8_peak_X8_isWithin
set_option maxRecDepth 20000 in
theorem ggX8_peak_X8_greatestSmoke : GoodIn wsX8_peak wsX8_greatestSmoke := goodIn_r _ [20, 21, 5, 22, 23, 24, 25, 6, 26, 27, 28, 29, 30, 31, 32, 33, 34, 35, 36, 37, 38, 39, 40, 41, 42, 43, 44, 45, 46, 10, 47, 12, 48, 49, 50, 15, 51, 52, 53, 54, 55, 56, 57, 58, 59, 60, 61, 62, 63, 64, 65, 66, 67, 68, 69, 70, 71, 72, 73, 74, 75, 76, 77, 78, 79, 80, 81, 82, 83, 84, 85, 86, 87, 88, 89, 90, 91, 92, 93, 94, 95, 96, 97, 98, 99, 100, 101, 102, 103, 104, 105, 106, 107, 108, 109, 110, 111, 112, 113, 114, 115, 116, 117, 118, 119, 120, 121, 122, 123, 124, 125, 126, 127, 128, 129, 130, 131, 132, 133, 134, 135, 136, 137, 138, 139, 140, 141, 142, 143, 144, 145, 146, 147, 148, 149, 150, 151, 152, 153, 154, 155, 156, 157, 158, 159, 160, 161, 162, 163, 164, 165, 166, 167, 168, 169, 170, 171, 172, 173, 174, 175, 176, 177, 178, 179, 180, 181, 182, 183, 184, 185, 186, 187, 188, 189, 190, 191, 192, 193, 194, 195, 196, 197, 198, 199, 200, 201, 202, 203, 204, 205, 206, 207, 208, 209, 210, 211, 212, 213, 214, 215, 216, 217, 218, 219, 220, 221, 222, 223, 224, 225, 226, 227, 228, 229, 230, 231, 232, 233, 234, 235, 236, 237, 238, 239, 240, 241, 242, 243, 244, 245, 246, 247, 248, 249, 250, 251, 252, 253, 254, 255, 256, 257, 258, 259, 260, 261, 262, 263, 264, 265, 266, 267, 268, 269, 270, 8, 9, 11, 271, 272, 273, 274, 275, 276, 277, 278, 279, 280, 281, 282, 283, 284, 285, 286, 287, 288, 289, 294, 295, 296, 297, 298, 299, 290, 291, 292, 293, 300, 301, 302, 303, 304, 305, 306, 307, 308, 309, 310, 311, 312, 313, 314, 315, 316, 317, 318, 319, 320, 321] (by decide +kernel) (by decide +kernel)
set_option maxRecDepth 20000 in
theorem gX8_peak_X8_greatestSmoke : GoodIn wsX8_peak (wsV RX8 251 RX8 yX8_greatestSmoke wsX8_greatestSmoke) := goodIn_app (goodIn_of _ (by decide +kernel)) ggX8_peak_X8_greatestSmoke
theorem dX8_peak_0 : decode cX8_peak 0 = .ok (.aload_n 0, 1) := by decide +kernel
theorem dX8_peak_1 : decode cX8_peak 1 = .ok (.getfield 10, 3) := by decide +kernel
theorem dX8_peak_4 : decode cX8_peak 4 = .ok (.getfield 37, 3) := by decide +kernel
theorem dX8_peak_7 : decode cX8_peak 7 = .ok (.iload_n 1, 1) := by decide +kernel
theorem dX8_peak_8 : decode cX8_peak 8 = .ok (.invokevirtual 112, 3) := by decide +kernel
theorem dX8_peak_11 : decode cX8_peak 11 = .ok (.ifCond .ne 13, 3) := by decide +kernel
theorem dX8_peak_14 : decode cX8_peak 14 = .ok (.new 59, 3) := by decide +kernel
theorem dX8_peak_17 : decode cX8_peak 17 = .ok (.dup, 1) := by decide +kernel
theorem dX8_peak_18 : decode cX8_peak 18 = .ok (.ldc 61, 2) := by decide +kernel
theorem dX8_peak_20 : decode cX8_peak 20 = .ok (.invokespecial 63, 3) := by decide +kernel
theorem dX8_peak_23 : decode cX8_peak 23 = .ok (.athrow, 1) := by decide +kernel
theorem dX8_peak_24 : decode cX8_peak 24 = .ok (.iload_n 2, 1) := by decide +kernel
theorem dX8_peak_25 : decode cX8_peak 25 = .ok (.iconst 0, 1) := by decide +kernel
theorem dX8_peak_26 : decode cX8_peak 26 = .ok (.bipush 8, 2) := by decide +kernel
theorem dX8_peak_28 : decode cX8_peak 28 = .ok (.invokestatic 26, 3) := by decide +kernel
theorem dX8_peak_31 : decode cX8_peak 31 = .ok (.ifCond .eq 14, 3) := by decide +kernel
theorem dX8_peak_34 : decode cX8_peak 34 = .ok (.iload_n 3, 1) := by decide +kernel
theorem dX8_peak_35 : decode cX8_peak 35 = .ok (.iconst 1, 1) := by decide +kernel
theorem dX8_peak_36 : decode cX8_peak 36 = .ok (.sipush 200, 3) := by decide +kernel
theorem dX8_peak_39 : decode cX8_peak 39 = .ok (.invokestatic 26, 3) := by decide +kernel
theorem dX8_peak_42 : decode cX8_peak 42 = .ok (.ifCond .ne 13, 3) := by decide +kernel
theorem dX8_peak_45 : decode cX8_peak 45 = .ok (.new 30, 3) := by decide +kernel
theorem dX8_peak_48 : decode cX8_peak 48 = .ok (.dup, 1) := by decide +kernel
theorem dX8_peak_49 : decode cX8_peak 49 = .ok (.ldc 249, 2) := by decide +kernel
theorem dX8_peak_51 : decode cX8_peak 51 = .ok (.invokespecial 34, 3) := by decide +kernel
theorem dX8_peak_54 : decode cX8_peak 54 = .ok (.athrow, 1) := by decide +kernel
theorem dX8_peak_55 : decode cX8_peak 55 = .ok (.aload_n 0, 1) := by decide +kernel
theorem dX8_peak_56 : decode cX8_peak 56 = .ok (.iload_n 1, 1) := by decide +kernel
theorem dX8_peak_57 : decode cX8_peak 57 = .ok (.iload_n 2, 1) := by decide +kernel
theorem dX8_peak_58 : decode cX8_peak 58 = .ok (.iload_n 3, 1) := by decide +kernel
theorem dX8_peak_59 : decode cX8_peak 59 = .ok (.invokevirtual 251, 3) := by decide +kernel
theorem dX8_peak_62 : decode cX8_peak 62 = .ok (.ireturn, 1) := by decide +kernel
set_option maxRecDepth 20000 in
theorem ggX8_bestOpening_X8_isWithin : GoodIn wsX8_bestOpening wsX8_isWithin := goodIn_r _ [6] (by decide +kernel) (by decide +kernel)
set_option maxRecDepth 20000 in
theorem gX8_bestOpening_X8_isWithin : GoodIn wsX8_bestOpening (va_wsS RX8 26 yX8_isWithin wsX8_isWithin) := goodIn_app (goodIn_of _ (by decide +kernel)) ggX8_bestOpening_X8_isWithin
set_option maxRecDepth 20000 in
theorem ggX8_bestOpening_X8_greatestSmoke : GoodIn wsX8_bestOpening wsX8_greatestSmoke := goodIn_r _ [10, 11, 12, 13, 14, 15, 16, 17, 18, 19, 20, 21, 22, 23, 24, 25, 26, 27, 28, 29, 30, 31, 32, 33, 34, 35, 36, 37, 38, 39, 40, 41, 42, 43, 44, 5, 45, 46, 47, 48, 49, 50, 51, 52, 53, 54, 55, 56, 57, 58, 59, 60, 61, 62, 63, 64, 65, 66, 67, 68, 69, 70, 71, 72, 73, 74, 75, 76, 77, 78, 79, 80, 81, 82, 83, 84, 85, 86, 87, 88, 89, 90, 91, 92, 93, 94, 95, 96, 97, 98, 99, 100, 101, 102, 103, 104, 105, 106, 107, 108, 109, 110, 111, 112, 113, 114, 115, 116, 117, 118, 119, 120, 121, 122, 123, 124, 125, 126, 127, 128, 129, 130, 131, 132, 133, 134, 135, 136, 137, 138, 139, 140, 141, 142, 143, 144, 145, 146, 147, 148, 149, 150, 151, 152, 153, 154, 155, 156, 157, 158, 159, 160, 161, 162, 163, 164, 165, 166, 167, 168, 169, 170, 171, 172, 173, 174, 175, 176, 177, 178, 179, 180, 181, 182, 183, 184, 185, 186, 187, 188, 189, 190, 191, 192, 193, 194, 195, 196, 197, 198, 199, 200, 201, 202, 203, 204, 205, 206, 207, 208, 209, 210, 211, 212, 213, 214, 215, 216, 217, 218, 219, 220, 221, 222, 223, 224, 225, 226, 227, 228, 229, 230, 231, 232, 233, 234, 235, 236, 237, 238, 239, 240, 241, 242, 243, 244, 245, 246, 247, 248, 249, 250, 251, 252, 253, 254, 255, 256, 257, 258, 259, 260, 261, 262, 263, 264, 265, 266, 267, 268, 269, 270, 271, 272, 273, 274, 275, 276, 277, 278, 279, 280, 281, 282, 283, 284, 285, 286, 287, 288, 289, 290, 291, 292, 293, 294, 295, 296, 297, 298, 299, 300, 301, 302, 303, 304, 305, 306, 307, 308, 309, 310, 311, 312, 313, 314, 315, 316, 317, 318] (by decide +kernel) (by decide +kernel)
set_option maxRecDepth 20000 in
theorem gX8_bestOpening_X8_greatestSmoke : GoodIn wsX8_bestOpening (wsV RX8 251 RX8 yX8_greatestSmoke wsX8_greatestSmoke) := goodIn_app (goodIn_of _ (by decide +kernel)) ggX8_bestOpening_X8_greatestSmoke
theorem dX8_bestOpening_0 : decode cX8_bestOpening 0 = .ok (.iload_n 1, 1) := by decide +kernel
theorem dX8_bestOpening_1 : decode cX8_bestOpening 1 = .ok (.iconst 1, 1) := by decide +kernel
theorem dX8_bestOpening_2 : decode cX8_bestOpening 2 = .ok (.sipush 200, 3) := by decide +kernel
theorem dX8_bestOpening_5 : decode cX8_bestOpening 5 = .ok (.invokestatic 26, 3) := by decide +kernel
theorem dX8_bestOpening_8 : decode cX8_bestOpening 8 = .ok (.ifCond .ne 13, 3) := by decide +kernel
theorem dX8_bestOpening_11 : decode cX8_bestOpening 11 = .ok (.new 30, 3) := by decide +kernel
theorem dX8_bestOpening_14 : decode cX8_bestOpening 14 = .ok (.dup, 1) := by decide +kernel
theorem dX8_bestOpening_15 : decode cX8_bestOpening 15 = .ok (.ldc 247, 2) := by decide +kernel
theorem dX8_bestOpening_17 : decode cX8_bestOpening 17 = .ok (.invokespecial 34, 3) := by decide +kernel
theorem dX8_bestOpening_20 : decode cX8_bestOpening 20 = .ok (.athrow, 1) := by decide +kernel
theorem dX8_bestOpening_21 : decode cX8_bestOpening 21 = .ok (.iconst 0, 1) := by decide +kernel
theorem dX8_bestOpening_22 : decode cX8_bestOpening 22 = .ok (.istore_n 2, 1) := by decide +kernel
theorem dX8_bestOpening_23 : decode cX8_bestOpening 23 = .ok (.aload_n 0, 1) := by decide +kernel
theorem dX8_bestOpening_24 : decode cX8_bestOpening 24 = .ok (.iconst 0, 1) := by decide +kernel
theorem dX8_bestOpening_25 : decode cX8_bestOpening 25 = .ok (.iconst 0, 1) := by decide +kernel
theorem dX8_bestOpening_26 : decode cX8_bestOpening 26 = .ok (.iload_n 1, 1) := by decide +kernel
theorem dX8_bestOpening_27 : decode cX8_bestOpening 27 = .ok (.invokevirtual 251, 3) := by decide +kernel
theorem dX8_bestOpening_30 : decode cX8_bestOpening 30 = .ok (.istore_n 3, 1) := by decide +kernel
theorem dX8_bestOpening_31 : decode cX8_bestOpening 31 = .ok (.iconst 1, 1) := by decide +kernel
theorem dX8_bestOpening_32 : decode cX8_bestOpening 32 = .ok (.istore 4, 2) := by decide +kernel
theorem dX8_bestOpening_34 : decode cX8_bestOpening 34 = .ok (.iload 4, 2) := by decide +kernel
theorem dX8_bestOpening_36 : decode cX8_bestOpening 36 = .ok (.bipush 8, 2) := by decide +kernel
theorem dX8_bestOpening_38 : decode cX8_bestOpening 38 = .ok (.if_icmp .gt 31, 3) := by decide +kernel
theorem dX8_bestOpening_41 : decode cX8_bestOpening 41 = .ok (.aload_n 0, 1) := by decide +kernel
theorem dX8_bestOpening_42 : decode cX8_bestOpening 42 = .ok (.iconst 0, 1) := by decide +kernel
theorem dX8_bestOpening_43 : decode cX8_bestOpening 43 = .ok (.iload 4, 2) := by decide +kernel
theorem dX8_bestOpening_45 : decode cX8_bestOpening 45 = .ok (.iload_n 1, 1) := by decide +kernel
theorem dX8_bestOpening_46 : decode cX8_bestOpening 46 = .ok (.invokevirtual 251, 3) := by decide +kernel
theorem dX8_bestOpening_49 : decode cX8_bestOpening 49 = .ok (.istore 5, 2) := by decide +kernel
theorem dX8_bestOpening_51 : decode cX8_bestOpening 51 = .ok (.iload 5, 2) := by decide +kernel
theorem dX8_bestOpening_53 : decode cX8_bestOpening 53 = .ok (.iload_n 3, 1) := by decide +kernel
theorem dX8_bestOpening_54 : decode cX8_bestOpening 54 = .ok (.if_icmp .ge 9, 3) := by decide +kernel
theorem dX8_bestOpening_57 : decode cX8_bestOpening 57 = .ok (.iload 4, 2) := by decide +kernel
theorem dX8_bestOpening_59 : decode cX8_bestOpening 59 = .ok (.istore_n 2, 1) := by decide +kernel
theorem dX8_bestOpening_60 : decode cX8_bestOpening 60 = .ok (.iload 5, 2) := by decide +kernel
theorem dX8_bestOpening_62 : decode cX8_bestOpening 62 = .ok (.istore_n 3, 1) := by decide +kernel
theorem dX8_bestOpening_63 : decode cX8_bestOpening 63 = .ok (.iinc 4 1, 3) := by decide +kernel
theorem dX8_bestOpening_66 : decode cX8_bestOpening 66 = .ok (.goto (-32), 3) := by decide +kernel
theorem dX8_bestOpening_69 : decode cX8_bestOpening 69 = .ok (.iload_n 2, 1) := by decide +kernel
theorem dX8_bestOpening_70 : decode cX8_bestOpening 70 = .ok (.ireturn, 1) := by decide +kernel
set_option maxRecDepth 20000 in
theorem ggX8_neededSensors_X3_isRoom : GoodIn wsX8_neededSensors wsX3_isRoom := goodIn_r _ [15, 16, 293, 294, 295, 296] (by decide +kernel) (by decide +kernel)
set_option maxRecDepth 20000 in
theorem gX8_neededSensors_X3_isRoom : GoodIn wsX8_neededSensors (wsV RX8 112 RX3 yX3_isRoom wsX3_isRoom) := goodIn_app (goodIn_of _ (by decide +kernel)) ggX8_neededSensors_X3_isRoom
set_option maxRecDepth 20000 in
theorem ggX8_neededSensors_X8_isWithin : GoodIn wsX8_neededSensors wsX8_isWithin := goodIn_r _ [20] (by decide +kernel) (by decide +kernel)
set_option maxRecDepth 20000 in
theorem gX8_neededSensors_X8_isWithin : GoodIn wsX8_neededSensors (va_wsS RX8 26 yX8_isWithin wsX8_isWithin) := goodIn_app (goodIn_of _ (by decide +kernel)) ggX8_neededSensors_X8_isWithin
set_option maxRecDepth 20000 in
theorem ggX8_neededSensors_X7_copyFrom : GoodIn wsX8_neededSensors wsX7_copyFrom := goodIn_r _ [25, 26, 27, 28, 29, 30, 31, 32, 33, 34, 35, 36, 14, 37, 16, 38, 39, 40, 19, 41, 42, 43, 44, 45, 46, 47, 48, 49, 50, 51, 52, 53, 54, 55, 56, 57, 58, 59, 60, 61, 62, 63, 64, 65, 66, 67, 68, 69, 70, 71, 72, 73, 74, 75, 76, 77, 78, 79, 80, 81, 82, 83, 84, 85, 86, 87, 88, 89, 90, 91, 92, 93, 94, 95, 96, 97, 98, 99, 100, 101, 102, 277, 278, 279, 280, 281, 282, 283, 284, 293, 294, 295, 296, 297, 298, 299, 300, 301, 302, 285, 286, 287, 288, 289, 290, 291, 292, 303, 304, 305, 306, 307, 308, 309, 310, 311, 312, 313, 314, 315, 316] (by decide +kernel) (by decide +kernel)
set_option maxRecDepth 20000 in
theorem gX8_neededSensors_X7_copyFrom : GoodIn wsX8_neededSensors (wsV RX8 241 RX7 yX7_copyFrom wsX7_copyFrom) := goodIn_app (goodIn_of _ (by decide +kernel)) ggX8_neededSensors_X7_copyFrom
set_option maxRecDepth 20000 in
theorem ggX8_neededSensors_X8_firstAlarm : GoodIn wsX8_neededSensors wsX8_firstAlarm := goodIn_r _ [106, 7, 107, 108, 109, 110, 24, 111, 26, 28, 33, 27, 29, 112, 113, 114, 115, 116, 32, 117, 118, 119, 96, 120, 98, 99, 121, 122, 123, 124, 125, 126, 127, 128, 129, 130, 131, 132, 133, 14, 134, 38, 135, 136, 137, 138, 139, 140, 53, 141, 55, 142, 43, 44, 45, 143, 144, 145, 64, 146, 66, 147, 148, 149, 150, 151, 152, 153, 154, 100, 101, 102, 155, 156, 157, 158, 159, 160, 161, 162, 58, 163, 164, 165, 56, 166, 167, 168, 169, 170, 171, 172, 173, 174, 175, 57, 176, 177, 178, 179, 16, 180, 39, 181, 182, 183, 184, 185, 186, 187, 188, 189, 190, 191, 192, 193, 194, 195, 196, 197, 198, 199, 200, 201, 202, 203, 204, 205, 206, 73, 207, 208, 209, 210, 211, 212, 30, 213, 214, 215, 77, 216, 81, 82, 217, 218, 219, 220, 221, 222, 223, 224, 225, 67, 226, 227, 228, 229, 72, 70, 230, 231, 232, 233, 234, 235, 236, 237, 238, 239, 240, 71, 241, 242, 243, 244, 245, 80, 246, 247, 248, 249, 31, 250, 251, 252, 253, 254, 255, 256, 257, 258, 259, 260, 261, 262, 263, 264, 12, 13, 15, 265, 266, 267, 86, 268, 88, 269, 270, 271, 272, 60, 59, 273, 274, 275, 276, 277, 278, 279, 280, 281, 282, 283, 284, 285, 286, 287, 288, 289, 290, 291, 292, 312, 313, 314, 315, 316, 297, 298, 299, 300, 301, 302, 293, 294, 295, 296, 303, 304, 305, 306, 307, 308, 309, 310, 311] (by decide +kernel) (by decide +kernel)
set_option maxRecDepth 20000 in
theorem gX8_neededSensors_X8_firstAlarm : GoodIn wsX8_neededSensors (wsV RX8 244 RX8 yX8_firstAlarm wsX8_firstAlarm) := goodIn_app (goodIn_of _ (by decide +kernel)) ggX8_neededSensors_X8_firstAlarm
theorem dX8_neededSensors_0 : decode cX8_neededSensors 0 = .ok (.aload_n 0, 1) := by decide +kernel
theorem dX8_neededSensors_1 : decode cX8_neededSensors 1 = .ok (.getfield 10, 3) := by decide +kernel
theorem dX8_neededSensors_4 : decode cX8_neededSensors 4 = .ok (.getfield 37, 3) := by decide +kernel
theorem dX8_neededSensors_7 : decode cX8_neededSensors 7 = .ok (.iload_n 1, 1) := by decide +kernel
theorem dX8_neededSensors_8 : decode cX8_neededSensors 8 = .ok (.invokevirtual 112, 3) := by decide +kernel
theorem dX8_neededSensors_11 : decode cX8_neededSensors 11 = .ok (.ifCond .ne 13, 3) := by decide +kernel
theorem dX8_neededSensors_14 : decode cX8_neededSensors 14 = .ok (.new 59, 3) := by decide +kernel
theorem dX8_neededSensors_17 : decode cX8_neededSensors 17 = .ok (.dup, 1) := by decide +kernel
theorem dX8_neededSensors_18 : decode cX8_neededSensors 18 = .ok (.ldc 61, 2) := by decide +kernel
theorem dX8_neededSensors_20 : decode cX8_neededSensors 20 = .ok (.invokespecial 63, 3) := by decide +kernel
theorem dX8_neededSensors_23 : decode cX8_neededSensors 23 = .ok (.athrow, 1) := by decide +kernel
theorem dX8_neededSensors_24 : decode cX8_neededSensors 24 = .ok (.iload_n 2, 1) := by decide +kernel
theorem dX8_neededSensors_25 : decode cX8_neededSensors 25 = .ok (.iconst 1, 1) := by decide +kernel
theorem dX8_neededSensors_26 : decode cX8_neededSensors 26 = .ok (.sipush 200, 3) := by decide +kernel
theorem dX8_neededSensors_29 : decode cX8_neededSensors 29 = .ok (.invokestatic 26, 3) := by decide +kernel
theorem dX8_neededSensors_32 : decode cX8_neededSensors 32 = .ok (.ifCond .ne 13, 3) := by decide +kernel
theorem dX8_neededSensors_35 : decode cX8_neededSensors 35 = .ok (.new 30, 3) := by decide +kernel
theorem dX8_neededSensors_38 : decode cX8_neededSensors 38 = .ok (.dup, 1) := by decide +kernel
theorem dX8_neededSensors_39 : decode cX8_neededSensors 39 = .ok (.ldc 247, 2) := by decide +kernel
theorem dX8_neededSensors_41 : decode cX8_neededSensors 41 = .ok (.invokespecial 34, 3) := by decide +kernel
theorem dX8_neededSensors_44 : decode cX8_neededSensors 44 = .ok (.athrow, 1) := by decide +kernel
theorem dX8_neededSensors_45 : decode cX8_neededSensors 45 = .ok (.aload_n 0, 1) := by decide +kernel
theorem dX8_neededSensors_46 : decode cX8_neededSensors 46 = .ok (.getfield 16, 3) := by decide +kernel
theorem dX8_neededSensors_49 : decode cX8_neededSensors 49 = .ok (.aload_n 0, 1) := by decide +kernel
theorem dX8_neededSensors_50 : decode cX8_neededSensors 50 = .ok (.getfield 10, 3) := by decide +kernel
theorem dX8_neededSensors_53 : decode cX8_neededSensors 53 = .ok (.invokevirtual 241, 3) := by decide +kernel
theorem dX8_neededSensors_56 : decode cX8_neededSensors 56 = .ok (.aload_n 0, 1) := by decide +kernel
theorem dX8_neededSensors_57 : decode cX8_neededSensors 57 = .ok (.iload_n 1, 1) := by decide +kernel
theorem dX8_neededSensors_58 : decode cX8_neededSensors 58 = .ok (.iload_n 2, 1) := by decide +kernel
theorem dX8_neededSensors_59 : decode cX8_neededSensors 59 = .ok (.invokevirtual 244, 3) := by decide +kernel
theorem dX8_neededSensors_62 : decode cX8_neededSensors 62 = .ok (.iconst (-1), 1) := by decide +kernel
theorem dX8_neededSensors_63 : decode cX8_neededSensors 63 = .ok (.if_icmp .ne 5, 3) := by decide +kernel
theorem dX8_neededSensors_66 : decode cX8_neededSensors 66 = .ok (.iconst 0, 1) := by decide +kernel
theorem dX8_neededSensors_67 : decode cX8_neededSensors 67 = .ok (.ireturn, 1) := by decide +kernel
theorem dX8_neededSensors_68 : decode cX8_neededSensors 68 = .ok (.iconst 0, 1) := by decide +kernel
theorem dX8_neededSensors_69 : decode cX8_neededSensors 69 = .ok (.istore_n 3, 1) := by decide +kernel
theorem dX8_neededSensors_70 : decode cX8_neededSensors 70 = .ok (.iconst 0, 1) := by decide +kernel
theorem dX8_neededSensors_71 : decode cX8_neededSensors 71 = .ok (.istore 4, 2) := by decide +kernel
theorem dX8_neededSensors_73 : decode cX8_neededSensors 73 = .ok (.iload 4, 2) := by decide +kernel
theorem dX8_neededSensors_75 : decode cX8_neededSensors 75 = .ok (.aload_n 0, 1) := by decide +kernel
theorem dX8_neededSensors_76 : decode cX8_neededSensors 76 = .ok (.getfield 10, 3) := by decide +kernel
theorem dX8_neededSensors_79 : decode cX8_neededSensors 79 = .ok (.getfield 131, 3) := by decide +kernel
theorem dX8_neededSensors_82 : decode cX8_neededSensors 82 = .ok (.getfield 135, 3) := by decide +kernel
theorem dX8_neededSensors_85 : decode cX8_neededSensors 85 = .ok (.if_icmp .ge 51, 3) := by decide +kernel
theorem dX8_neededSensors_88 : decode cX8_neededSensors 88 = .ok (.aload_n 0, 1) := by decide +kernel
theorem dX8_neededSensors_89 : decode cX8_neededSensors 89 = .ok (.getfield 16, 3) := by decide +kernel
theorem dX8_neededSensors_92 : decode cX8_neededSensors 92 = .ok (.aload_n 0, 1) := by decide +kernel
theorem dX8_neededSensors_93 : decode cX8_neededSensors 93 = .ok (.getfield 10, 3) := by decide +kernel
theorem dX8_neededSensors_96 : decode cX8_neededSensors 96 = .ok (.invokevirtual 241, 3) := by decide +kernel
theorem dX8_neededSensors_99 : decode cX8_neededSensors 99 = .ok (.aload_n 0, 1) := by decide +kernel
theorem dX8_neededSensors_100 : decode cX8_neededSensors 100 = .ok (.getfield 16, 3) := by decide +kernel
theorem dX8_neededSensors_103 : decode cX8_neededSensors 103 = .ok (.getfield 131, 3) := by decide +kernel
theorem dX8_neededSensors_106 : decode cX8_neededSensors 106 = .ok (.getfield 156, 3) := by decide +kernel
theorem dX8_neededSensors_109 : decode cX8_neededSensors 109 = .ok (.iload 4, 2) := by decide +kernel
theorem dX8_neededSensors_111 : decode cX8_neededSensors 111 = .ok (.iconst 1, 1) := by decide +kernel
theorem dX8_neededSensors_112 : decode cX8_neededSensors 112 = .ok (.iastore, 1) := by decide +kernel
theorem dX8_neededSensors_113 : decode cX8_neededSensors 113 = .ok (.aload_n 0, 1) := by decide +kernel
theorem dX8_neededSensors_114 : decode cX8_neededSensors 114 = .ok (.iload_n 1, 1) := by decide +kernel
theorem dX8_neededSensors_115 : decode cX8_neededSensors 115 = .ok (.iload_n 2, 1) := by decide +kernel
theorem dX8_neededSensors_116 : decode cX8_neededSensors 116 = .ok (.invokevirtual 244, 3) := by decide +kernel
theorem dX8_neededSensors_119 : decode cX8_neededSensors 119 = .ok (.iconst (-1), 1) := by decide +kernel
theorem dX8_neededSensors_120 : decode cX8_neededSensors 120 = .ok (.if_icmp .ne 10, 3) := by decide +kernel
theorem dX8_neededSensors_123 : decode cX8_neededSensors 123 = .ok (.iload_n 3, 1) := by decide +kernel
theorem dX8_neededSensors_124 : decode cX8_neededSensors 124 = .ok (.iconst 1, 1) := by decide +kernel
theorem dX8_neededSensors_125 : decode cX8_neededSensors 125 = .ok (.iload 4, 2) := by decide +kernel
theorem dX8_neededSensors_127 : decode cX8_neededSensors 127 = .ok (.ishl, 1) := by decide +kernel
theorem dX8_neededSensors_128 : decode cX8_neededSensors 128 = .ok (.ior, 1) := by decide +kernel
theorem dX8_neededSensors_129 : decode cX8_neededSensors 129 = .ok (.istore_n 3, 1) := by decide +kernel
theorem dX8_neededSensors_130 : decode cX8_neededSensors 130 = .ok (.iinc 4 1, 3) := by decide +kernel
theorem dX8_neededSensors_133 : decode cX8_neededSensors 133 = .ok (.goto (-60), 3) := by decide +kernel
theorem dX8_neededSensors_136 : decode cX8_neededSensors 136 = .ok (.iload_n 3, 1) := by decide +kernel
theorem dX8_neededSensors_137 : decode cX8_neededSensors 137 = .ok (.ireturn, 1) := by decide +kernel
set_option maxRecDepth 20000 in
theorem ggX8_burnsFor_X8_isWithin : GoodIn wsX8_burnsFor wsX8_isWithin := goodIn_r _ [10] (by decide +kernel) (by decide +kernel)
set_option maxRecDepth 20000 in
theorem gX8_burnsFor_X8_isWithin : GoodIn wsX8_burnsFor (va_wsS RX8 26 yX8_isWithin wsX8_isWithin) := goodIn_app (goodIn_of _ (by decide +kernel)) ggX8_burnsFor_X8_isWithin
set_option maxRecDepth 20000 in
theorem ggX8_burnsFor_X7_copyFrom : GoodIn wsX8_burnsFor wsX7_copyFrom := goodIn_r _ [15, 16, 17, 18, 19, 20, 21, 22, 23, 24, 25, 26, 27, 28, 29, 30, 31, 32, 9, 33, 34, 35, 36, 37, 38, 39, 40, 41, 42, 43, 44, 45, 46, 47, 48, 49, 50, 51, 52, 53, 54, 55, 56, 57, 58, 59, 60, 61, 62, 63, 64, 65, 66, 67, 68, 69, 70, 71, 72, 73, 74, 75, 76, 77, 78, 79, 80, 81, 82, 83, 84, 85, 86, 87, 88, 89, 90, 91, 92, 93, 94, 266, 267, 268, 269, 270, 271, 272, 273, 280, 281, 282, 283, 274, 275, 276, 277, 278, 279, 284, 285, 286, 287, 288, 289, 290, 291, 292, 293, 294, 295, 296, 297, 298, 299, 300, 301, 302, 303, 304, 305] (by decide +kernel) (by decide +kernel)
set_option maxRecDepth 20000 in
theorem gX8_burnsFor_X7_copyFrom : GoodIn wsX8_burnsFor (wsV RX8 241 RX7 yX7_copyFrom wsX7_copyFrom) := goodIn_app (goodIn_of _ (by decide +kernel)) ggX8_burnsFor_X7_copyFrom
set_option maxRecDepth 20000 in
theorem ggX8_burnsFor_X7_letMinutePass : GoodIn wsX8_burnsFor wsX7_letMinutePass := goodIn_r _ [98, 16, 18, 23, 17, 19, 99, 100, 101, 102, 14, 103, 22, 104, 105, 106, 88, 107, 90, 91, 108, 109, 110, 111, 112, 113, 114, 115, 116, 117, 118, 119, 120, 27, 121, 30, 122, 123, 124, 125, 126, 127, 45, 128, 47, 129, 35, 36, 37, 130, 131, 132, 56, 133, 58, 134, 135, 136, 137, 138, 139, 140, 141, 92, 93, 94, 142, 143, 144, 145, 146, 147, 148, 149, 50, 150, 151, 152, 48, 153, 154, 155, 156, 157, 158, 159, 160, 161, 162, 49, 163, 164, 165, 166, 29, 167, 31, 168, 169, 170, 171, 172, 173, 174, 175, 176, 177, 178, 179, 180, 181, 182, 183, 184, 185, 186, 187, 188, 189, 190, 191, 192, 193, 65, 194, 195, 196, 197, 198, 199, 20, 200, 201, 202, 69, 203, 73, 74, 204, 205, 206, 207, 208, 209, 210, 211, 212, 59, 213, 214, 215, 216, 64, 62, 217, 218, 219, 220, 221, 222, 223, 224, 225, 226, 227, 63, 228, 229, 230, 231, 232, 72, 233, 234, 235, 236, 21, 237, 238, 239, 240, 241, 242, 243, 244, 245, 246, 247, 248, 249, 250, 251, 252, 253, 254, 255, 256, 257, 78, 258, 80, 259, 260, 261, 262, 52, 51, 266, 267, 268, 269, 270, 271, 272, 273, 284, 285, 286, 287, 288, 289, 290, 291, 301, 302, 303, 304, 305, 274, 275, 276, 277, 278, 279, 280, 281, 282, 283, 292, 293, 294, 295, 296, 297, 298, 299, 300] (by decide +kernel) (by decide +kernel)
set_option maxRecDepth 20000 in
theorem gX8_burnsFor_X7_letMinutePass : GoodIn wsX8_burnsFor (wsV RX8 230 RX7 yX7_letMinutePass wsX7_letMinutePass) := goodIn_app (goodIn_of _ (by decide +kernel)) ggX8_burnsFor_X7_letMinutePass
theorem dX8_burnsFor_0 : decode cX8_burnsFor 0 = .ok (.iload_n 1, 1) := by decide +kernel
theorem dX8_burnsFor_1 : decode cX8_burnsFor 1 = .ok (.iconst 1, 1) := by decide +kernel
theorem dX8_burnsFor_2 : decode cX8_burnsFor 2 = .ok (.sipush 200, 3) := by decide +kernel
theorem dX8_burnsFor_5 : decode cX8_burnsFor 5 = .ok (.invokestatic 26, 3) := by decide +kernel
theorem dX8_burnsFor_8 : decode cX8_burnsFor 8 = .ok (.ifCond .ne 13, 3) := by decide +kernel
theorem dX8_burnsFor_11 : decode cX8_burnsFor 11 = .ok (.new 30, 3) := by decide +kernel
theorem dX8_burnsFor_14 : decode cX8_burnsFor 14 = .ok (.dup, 1) := by decide +kernel
theorem dX8_burnsFor_15 : decode cX8_burnsFor 15 = .ok (.ldc 236, 2) := by decide +kernel
theorem dX8_burnsFor_17 : decode cX8_burnsFor 17 = .ok (.invokespecial 34, 3) := by decide +kernel
theorem dX8_burnsFor_20 : decode cX8_burnsFor 20 = .ok (.athrow, 1) := by decide +kernel
theorem dX8_burnsFor_21 : decode cX8_burnsFor 21 = .ok (.aload_n 0, 1) := by decide +kernel
theorem dX8_burnsFor_22 : decode cX8_burnsFor 22 = .ok (.getfield 10, 3) := by decide +kernel
theorem dX8_burnsFor_25 : decode cX8_burnsFor 25 = .ok (.getfield 76, 3) := by decide +kernel
theorem dX8_burnsFor_28 : decode cX8_burnsFor 28 = .ok (.getfield 85, 3) := by decide +kernel
theorem dX8_burnsFor_31 : decode cX8_burnsFor 31 = .ok (.ifCond .ne 5, 3) := by decide +kernel
theorem dX8_burnsFor_34 : decode cX8_burnsFor 34 = .ok (.iconst 0, 1) := by decide +kernel
theorem dX8_burnsFor_35 : decode cX8_burnsFor 35 = .ok (.ireturn, 1) := by decide +kernel
theorem dX8_burnsFor_36 : decode cX8_burnsFor 36 = .ok (.aload_n 0, 1) := by decide +kernel
theorem dX8_burnsFor_37 : decode cX8_burnsFor 37 = .ok (.getfield 16, 3) := by decide +kernel
theorem dX8_burnsFor_40 : decode cX8_burnsFor 40 = .ok (.aload_n 0, 1) := by decide +kernel
theorem dX8_burnsFor_41 : decode cX8_burnsFor 41 = .ok (.getfield 10, 3) := by decide +kernel
theorem dX8_burnsFor_44 : decode cX8_burnsFor 44 = .ok (.invokevirtual 241, 3) := by decide +kernel
theorem dX8_burnsFor_47 : decode cX8_burnsFor 47 = .ok (.iconst 1, 1) := by decide +kernel
theorem dX8_burnsFor_48 : decode cX8_burnsFor 48 = .ok (.istore_n 2, 1) := by decide +kernel
theorem dX8_burnsFor_49 : decode cX8_burnsFor 49 = .ok (.iload_n 2, 1) := by decide +kernel
theorem dX8_burnsFor_50 : decode cX8_burnsFor 50 = .ok (.iload_n 1, 1) := by decide +kernel
theorem dX8_burnsFor_51 : decode cX8_burnsFor 51 = .ok (.if_icmp .gt 32, 3) := by decide +kernel
theorem dX8_burnsFor_54 : decode cX8_burnsFor 54 = .ok (.aload_n 0, 1) := by decide +kernel
theorem dX8_burnsFor_55 : decode cX8_burnsFor 55 = .ok (.getfield 16, 3) := by decide +kernel
theorem dX8_burnsFor_58 : decode cX8_burnsFor 58 = .ok (.invokevirtual 230, 3) := by decide +kernel
theorem dX8_burnsFor_61 : decode cX8_burnsFor 61 = .ok (.pop, 1) := by decide +kernel
theorem dX8_burnsFor_62 : decode cX8_burnsFor 62 = .ok (.aload_n 0, 1) := by decide +kernel
theorem dX8_burnsFor_63 : decode cX8_burnsFor 63 = .ok (.getfield 16, 3) := by decide +kernel
theorem dX8_burnsFor_66 : decode cX8_burnsFor 66 = .ok (.getfield 76, 3) := by decide +kernel
theorem dX8_burnsFor_69 : decode cX8_burnsFor 69 = .ok (.getfield 85, 3) := by decide +kernel
theorem dX8_burnsFor_72 : decode cX8_burnsFor 72 = .ok (.ifCond .ne 5, 3) := by decide +kernel
theorem dX8_burnsFor_75 : decode cX8_burnsFor 75 = .ok (.iload_n 2, 1) := by decide +kernel
theorem dX8_burnsFor_76 : decode cX8_burnsFor 76 = .ok (.ireturn, 1) := by decide +kernel
theorem dX8_burnsFor_77 : decode cX8_burnsFor 77 = .ok (.iinc 2 1, 3) := by decide +kernel
theorem dX8_burnsFor_80 : decode cX8_burnsFor 80 = .ok (.goto (-31), 3) := by decide +kernel
theorem dX8_burnsFor_83 : decode cX8_burnsFor 83 = .ok (.iconst (-1), 1) := by decide +kernel
theorem dX8_burnsFor_84 : decode cX8_burnsFor 84 = .ok (.ireturn, 1) := by decide +kernel
set_option maxRecDepth 20000 in
theorem ggX8_undo_X4_giveBack : GoodIn wsX8_undo wsX4_giveBack := goodIn_r _ [10, 11, 12, 13, 14, 9, 15, 16, 17, 18, 19, 20, 21, 22, 23, 24, 25, 26, 27, 28, 29, 30, 31, 32, 33, 34, 35, 36, 37, 38, 39, 40, 41, 42, 43, 44, 45, 46, 47, 48, 49, 50, 51, 52, 53, 54, 55, 56, 57, 58, 59, 60, 61, 62, 63, 64, 65, 66, 67, 68, 69, 70, 71, 72, 73, 74, 75, 76, 77, 78, 79, 80, 81, 82, 83, 84, 85, 86, 87, 88, 89, 90, 91, 92, 93, 94, 95, 96, 97, 98, 99, 100, 101, 102, 106, 107, 108, 109, 110, 111, 112, 113, 114, 115, 116, 117, 118, 119, 120, 121, 122, 123, 124, 125, 126, 127, 128, 129, 130, 131, 132, 133, 134, 135, 136, 137, 138, 139, 140, 141, 142, 143, 144, 145, 146, 147, 148] (by decide +kernel) (by decide +kernel)
set_option maxRecDepth 20000 in
theorem gX8_undo_X4_giveBack : GoodIn wsX8_undo (wsV RX8 260 RX4 yX4_giveBack wsX4_giveBack) := goodIn_app (goodIn_of _ (by decide +kernel)) ggX8_undo_X4_giveBack
theorem dX8_undo_0 : decode cX8_undo 0 = .ok (.aload_n 0, 1) := by decide +kernel
theorem dX8_undo_1 : decode cX8_undo 1 = .ok (.getfield 22, 3) := by decide +kernel
theorem dX8_undo_4 : decode cX8_undo 4 = .ok (.getfield 255, 3) := by decide +kernel
theorem dX8_undo_7 : decode cX8_undo 7 = .ok (.ifCond .ne 14, 3) := by decide +kernel
theorem dX8_undo_10 : decode cX8_undo 10 = .ok (.new 140, 3) := by decide +kernel
theorem dX8_undo_13 : decode cX8_undo 13 = .ok (.dup, 1) := by decide +kernel
theorem dX8_undo_14 : decode cX8_undo 14 = .ok (.ldc_w 258, 3) := by decide +kernel
theorem dX8_undo_17 : decode cX8_undo 17 = .ok (.invokespecial 144, 3) := by decide +kernel
theorem dX8_undo_20 : decode cX8_undo 20 = .ok (.athrow, 1) := by decide +kernel
theorem dX8_undo_21 : decode cX8_undo 21 = .ok (.aload_n 0, 1) := by decide +kernel
theorem dX8_undo_22 : decode cX8_undo 22 = .ok (.getfield 22, 3) := by decide +kernel
theorem dX8_undo_25 : decode cX8_undo 25 = .ok (.aload_n 0, 1) := by decide +kernel
theorem dX8_undo_26 : decode cX8_undo 26 = .ok (.getfield 10, 3) := by decide +kernel
theorem dX8_undo_29 : decode cX8_undo 29 = .ok (.invokevirtual 260, 3) := by decide +kernel
theorem dX8_undo_32 : decode cX8_undo 32 = .ok (.aload_n 0, 1) := by decide +kernel
theorem dX8_undo_33 : decode cX8_undo 33 = .ok (.getfield 22, 3) := by decide +kernel
theorem dX8_undo_36 : decode cX8_undo 36 = .ok (.getfield 255, 3) := by decide +kernel
theorem dX8_undo_39 : decode cX8_undo 39 = .ok (.ireturn, 1) := by decide +kernel
set_option maxRecDepth 20000 in
theorem ggX8_checksum_X7_aboutAll : GoodIn wsX8_checksum wsX7_aboutAll := goodIn_r _ [14, 15, 16, 17, 18, 19, 20, 21, 22, 23, 24, 25, 26, 27, 28, 29, 30, 31, 32, 33, 34, 35, 36, 37, 38, 39, 40, 41, 42, 43, 44, 45, 46, 160, 161, 162, 163, 164, 165, 166, 167, 184, 185, 186, 187, 188, 189, 190, 191, 192, 193, 194, 195, 196, 197, 168, 169, 170, 171, 172, 173, 174, 175, 198, 199, 200, 201, 202, 176, 177, 178, 179, 180] (by decide +kernel) (by decide +kernel)
set_option maxRecDepth 20000 in
theorem gX8_checksum_X7_aboutAll : GoodIn wsX8_checksum (wsV RX8 104 RX7 yX7_aboutAll wsX7_aboutAll) := goodIn_app (goodIn_of _ (by decide +kernel)) ggX8_checksum_X7_aboutAll
set_option maxRecDepth 20000 in
theorem ggX8_checksum_X8_mix : GoodIn wsX8_checksum wsX8_mix := goodIn_r _ [50, 51] (by decide +kernel) (by decide +kernel)
set_option maxRecDepth 20000 in
theorem gX8_checksum_X8_mix : GoodIn wsX8_checksum (va_wsS RX8 265 yX8_mix wsX8_mix) := goodIn_app (goodIn_of _ (by decide +kernel)) ggX8_checksum_X8_mix
set_option maxRecDepth 20000 in
theorem ggX8_checksum_X8_mixRooms : GoodIn wsX8_checksum wsX8_mixRooms := goodIn_r _ [55, 2, 56, 57, 58, 59, 60, 13, 61, 23, 62, 17, 63, 64, 28, 65, 66, 67, 68, 69, 70, 71, 72, 73, 74, 75, 18, 76, 77, 78, 79, 80, 81, 82, 83, 84, 85, 86, 87, 88, 89, 90, 91, 92, 93, 94, 95, 96, 97, 98, 99, 100, 101, 47, 48, 49, 50, 51, 102, 103, 104, 105, 106, 107, 108, 109, 110, 157, 158, 159, 160, 161, 162, 163, 164, 165, 166, 167, 194, 195, 196, 197, 190, 191, 192, 193, 168, 169, 170, 171, 172, 173, 174, 175] (by decide +kernel) (by decide +kernel)
set_option maxRecDepth 20000 in
theorem gX8_checksum_X8_mixRooms : GoodIn wsX8_checksum (wsV RX8 269 RX8 yX8_mixRooms wsX8_mixRooms) := goodIn_app (goodIn_of _ (by decide +kernel)) ggX8_checksum_X8_mixRooms
set_option maxRecDepth 20000 in
theorem ggX8_checksum_X7_aboutSensor : GoodIn wsX8_checksum wsX7_aboutSensor := goodIn_r _ [114, 28, 115, 116, 117, 118, 119, 120, 121, 122, 123, 124, 13, 125, 23, 15, 22, 126, 127, 128, 105, 129, 130, 131, 40, 41, 42, 37, 43, 44, 45, 46, 34, 35, 36, 38, 39, 132, 84, 85, 79, 86, 87, 88, 89, 160, 161, 162, 163, 164, 165, 166, 167, 168, 169, 170, 171, 172, 173, 174, 175, 184, 185, 186, 187, 188, 189, 194, 195, 196, 197] (by decide +kernel) (by decide +kernel)
set_option maxRecDepth 20000 in
theorem gX8_checksum_X7_aboutSensor : GoodIn wsX8_checksum (wsV RX8 161 RX7 yX7_aboutSensor wsX7_aboutSensor) := goodIn_app (goodIn_of _ (by decide +kernel)) ggX8_checksum_X7_aboutSensor
set_option maxRecDepth 20000 in
theorem ggX8_checksum_X7_firstRule : GoodIn wsX8_checksum wsX7_firstRule := goodIn_r _ [136, 30, 31, 137, 138, 139, 13, 140, 141, 142, 143, 23, 15, 17, 126, 127, 128, 105, 129, 130, 131, 40, 41, 42, 37, 43, 44, 45, 46, 144, 145, 146, 147, 65, 66, 67, 68, 69, 70, 71, 34, 35, 36, 38, 39, 160, 161, 162, 163, 164, 165, 166, 167, 198, 199, 200, 201, 202, 194, 195, 196, 197, 184, 185, 186, 187, 188, 189, 190, 191, 192, 193] (by decide +kernel) (by decide +kernel)
set_option maxRecDepth 20000 in
theorem gX8_checksum_X7_firstRule : GoodIn wsX8_checksum (wsV RX8 184 RX7 yX7_firstRule wsX7_firstRule) := goodIn_app (goodIn_of _ (by decide +kernel)) ggX8_checksum_X7_firstRule
set_option maxRecDepth 20000 in
theorem ggX8_checksum_X1_about : GoodIn wsX8_checksum wsX1_about := goodIn_r _ [152, 153, 154, 155, 156, 176, 177, 178, 179, 180] (by decide +kernel) (by decide +kernel)
set_option maxRecDepth 20000 in
theorem gX8_checksum_X1_about : GoodIn wsX8_checksum (wsV RX8 214 RX1 yX1_about wsX1_about) := goodIn_app (goodIn_of _ (by decide +kernel)) ggX8_checksum_X1_about
theorem dX8_checksum_0 : decode cX8_checksum 0 = .ok (.ldc2_w 263, 3) := by decide +kernel
theorem dX8_checksum_3 : decode cX8_checksum 3 = .ok (.lstore_n 1, 1) := by decide +kernel
theorem dX8_checksum_4 : decode cX8_checksum 4 = .ok (.iconst 0, 1) := by decide +kernel
theorem dX8_checksum_5 : decode cX8_checksum 5 = .ok (.istore_n 3, 1) := by decide +kernel
theorem dX8_checksum_6 : decode cX8_checksum 6 = .ok (.iload_n 3, 1) := by decide +kernel
theorem dX8_checksum_7 : decode cX8_checksum 7 = .ok (.bipush 15, 2) := by decide +kernel
theorem dX8_checksum_9 : decode cX8_checksum 9 = .ok (.if_icmp .ge 22, 3) := by decide +kernel
theorem dX8_checksum_12 : decode cX8_checksum 12 = .ok (.lload_n 1, 1) := by decide +kernel
theorem dX8_checksum_13 : decode cX8_checksum 13 = .ok (.aload_n 0, 1) := by decide +kernel
theorem dX8_checksum_14 : decode cX8_checksum 14 = .ok (.getfield 10, 3) := by decide +kernel
theorem dX8_checksum_17 : decode cX8_checksum 17 = .ok (.iload_n 3, 1) := by decide +kernel
theorem dX8_checksum_18 : decode cX8_checksum 18 = .ok (.invokevirtual 104, 3) := by decide +kernel
theorem dX8_checksum_21 : decode cX8_checksum 21 = .ok (.invokestatic 265, 3) := by decide +kernel
theorem dX8_checksum_24 : decode cX8_checksum 24 = .ok (.lstore_n 1, 1) := by decide +kernel
theorem dX8_checksum_25 : decode cX8_checksum 25 = .ok (.iinc 3 1, 3) := by decide +kernel
theorem dX8_checksum_28 : decode cX8_checksum 28 = .ok (.goto (-22), 3) := by decide +kernel
theorem dX8_checksum_31 : decode cX8_checksum 31 = .ok (.aload_n 0, 1) := by decide +kernel
theorem dX8_checksum_32 : decode cX8_checksum 32 = .ok (.lload_n 1, 1) := by decide +kernel
theorem dX8_checksum_33 : decode cX8_checksum 33 = .ok (.invokevirtual 269, 3) := by decide +kernel
theorem dX8_checksum_36 : decode cX8_checksum 36 = .ok (.lstore_n 1, 1) := by decide +kernel
theorem dX8_checksum_37 : decode cX8_checksum 37 = .ok (.iconst 0, 1) := by decide +kernel
theorem dX8_checksum_38 : decode cX8_checksum 38 = .ok (.istore_n 3, 1) := by decide +kernel
theorem dX8_checksum_39 : decode cX8_checksum 39 = .ok (.iload_n 3, 1) := by decide +kernel
theorem dX8_checksum_40 : decode cX8_checksum 40 = .ok (.aload_n 0, 1) := by decide +kernel
theorem dX8_checksum_41 : decode cX8_checksum 41 = .ok (.getfield 10, 3) := by decide +kernel
theorem dX8_checksum_44 : decode cX8_checksum 44 = .ok (.getfield 131, 3) := by decide +kernel
theorem dX8_checksum_47 : decode cX8_checksum 47 = .ok (.getfield 135, 3) := by decide +kernel
theorem dX8_checksum_50 : decode cX8_checksum 50 = .ok (.if_icmp .ge 40, 3) := by decide +kernel
theorem dX8_checksum_53 : decode cX8_checksum 53 = .ok (.iconst 0, 1) := by decide +kernel
theorem dX8_checksum_54 : decode cX8_checksum 54 = .ok (.istore 4, 2) := by decide +kernel
theorem dX8_checksum_56 : decode cX8_checksum 56 = .ok (.iload 4, 2) := by decide +kernel
theorem dX8_checksum_58 : decode cX8_checksum 58 = .ok (.bipush 9, 2) := by decide +kernel
theorem dX8_checksum_60 : decode cX8_checksum 60 = .ok (.if_icmp .ge 24, 3) := by decide +kernel
theorem dX8_checksum_63 : decode cX8_checksum 63 = .ok (.lload_n 1, 1) := by decide +kernel
theorem dX8_checksum_64 : decode cX8_checksum 64 = .ok (.aload_n 0, 1) := by decide +kernel
theorem dX8_checksum_65 : decode cX8_checksum 65 = .ok (.getfield 10, 3) := by decide +kernel
theorem dX8_checksum_68 : decode cX8_checksum 68 = .ok (.iload_n 3, 1) := by decide +kernel
theorem dX8_checksum_69 : decode cX8_checksum 69 = .ok (.iload 4, 2) := by decide +kernel
theorem dX8_checksum_71 : decode cX8_checksum 71 = .ok (.invokevirtual 161, 3) := by decide +kernel
theorem dX8_checksum_74 : decode cX8_checksum 74 = .ok (.invokestatic 265, 3) := by decide +kernel
theorem dX8_checksum_77 : decode cX8_checksum 77 = .ok (.lstore_n 1, 1) := by decide +kernel
theorem dX8_checksum_78 : decode cX8_checksum 78 = .ok (.iinc 4 1, 3) := by decide +kernel
theorem dX8_checksum_81 : decode cX8_checksum 81 = .ok (.goto (-25), 3) := by decide +kernel
theorem dX8_checksum_84 : decode cX8_checksum 84 = .ok (.iinc 3 1, 3) := by decide +kernel
theorem dX8_checksum_87 : decode cX8_checksum 87 = .ok (.goto (-48), 3) := by decide +kernel
theorem dX8_checksum_90 : decode cX8_checksum 90 = .ok (.lload_n 1, 1) := by decide +kernel
theorem dX8_checksum_91 : decode cX8_checksum 91 = .ok (.aload_n 0, 1) := by decide +kernel
theorem dX8_checksum_92 : decode cX8_checksum 92 = .ok (.getfield 10, 3) := by decide +kernel
theorem dX8_checksum_95 : decode cX8_checksum 95 = .ok (.invokevirtual 184, 3) := by decide +kernel
theorem dX8_checksum_98 : decode cX8_checksum 98 = .ok (.invokestatic 265, 3) := by decide +kernel
theorem dX8_checksum_101 : decode cX8_checksum 101 = .ok (.lstore_n 1, 1) := by decide +kernel
theorem dX8_checksum_102 : decode cX8_checksum 102 = .ok (.iconst 0, 1) := by decide +kernel
theorem dX8_checksum_103 : decode cX8_checksum 103 = .ok (.istore_n 3, 1) := by decide +kernel
theorem dX8_checksum_104 : decode cX8_checksum 104 = .ok (.iload_n 3, 1) := by decide +kernel
theorem dX8_checksum_105 : decode cX8_checksum 105 = .ok (.aload_n 0, 1) := by decide +kernel
theorem dX8_checksum_106 : decode cX8_checksum 106 = .ok (.getfield 10, 3) := by decide +kernel
theorem dX8_checksum_109 : decode cX8_checksum 109 = .ok (.getfield 198, 3) := by decide +kernel
theorem dX8_checksum_112 : decode cX8_checksum 112 = .ok (.getfield 202, 3) := by decide +kernel
theorem dX8_checksum_115 : decode cX8_checksum 115 = .ok (.if_icmp .ge 42, 3) := by decide +kernel
theorem dX8_checksum_118 : decode cX8_checksum 118 = .ok (.iconst 0, 1) := by decide +kernel
theorem dX8_checksum_119 : decode cX8_checksum 119 = .ok (.istore 4, 2) := by decide +kernel
theorem dX8_checksum_121 : decode cX8_checksum 121 = .ok (.iload 4, 2) := by decide +kernel
theorem dX8_checksum_123 : decode cX8_checksum 123 = .ok (.iconst 4, 1) := by decide +kernel
theorem dX8_checksum_124 : decode cX8_checksum 124 = .ok (.if_icmp .ge 27, 3) := by decide +kernel
theorem dX8_checksum_127 : decode cX8_checksum 127 = .ok (.lload_n 1, 1) := by decide +kernel
theorem dX8_checksum_128 : decode cX8_checksum 128 = .ok (.aload_n 0, 1) := by decide +kernel
theorem dX8_checksum_129 : decode cX8_checksum 129 = .ok (.getfield 10, 3) := by decide +kernel
theorem dX8_checksum_132 : decode cX8_checksum 132 = .ok (.getfield 198, 3) := by decide +kernel
theorem dX8_checksum_135 : decode cX8_checksum 135 = .ok (.iload_n 3, 1) := by decide +kernel
theorem dX8_checksum_136 : decode cX8_checksum 136 = .ok (.iload 4, 2) := by decide +kernel
theorem dX8_checksum_138 : decode cX8_checksum 138 = .ok (.invokevirtual 214, 3) := by decide +kernel
theorem dX8_checksum_141 : decode cX8_checksum 141 = .ok (.invokestatic 265, 3) := by decide +kernel
theorem dX8_checksum_144 : decode cX8_checksum 144 = .ok (.lstore_n 1, 1) := by decide +kernel
theorem dX8_checksum_145 : decode cX8_checksum 145 = .ok (.iinc 4 1, 3) := by decide +kernel
theorem dX8_checksum_148 : decode cX8_checksum 148 = .ok (.goto (-27), 3) := by decide +kernel
theorem dX8_checksum_151 : decode cX8_checksum 151 = .ok (.iinc 3 1, 3) := by decide +kernel
theorem dX8_checksum_154 : decode cX8_checksum 154 = .ok (.goto (-50), 3) := by decide +kernel
theorem dX8_checksum_157 : decode cX8_checksum 157 = .ok (.iconst 0, 1) := by decide +kernel
theorem dX8_checksum_158 : decode cX8_checksum 158 = .ok (.istore_n 3, 1) := by decide +kernel
theorem dX8_checksum_159 : decode cX8_checksum 159 = .ok (.iload_n 3, 1) := by decide +kernel
theorem dX8_checksum_160 : decode cX8_checksum 160 = .ok (.bipush 6, 2) := by decide +kernel
theorem dX8_checksum_162 : decode cX8_checksum 162 = .ok (.if_icmp .ge 23, 3) := by decide +kernel
theorem dX8_checksum_165 : decode cX8_checksum 165 = .ok (.lload_n 1, 1) := by decide +kernel
theorem dX8_checksum_166 : decode cX8_checksum 166 = .ok (.aload_n 0, 1) := by decide +kernel
theorem dX8_checksum_167 : decode cX8_checksum 167 = .ok (.getfield 10, 3) := by decide +kernel
theorem dX8_checksum_170 : decode cX8_checksum 170 = .ok (.getfield 233, 3) := by decide +kernel
theorem dX8_checksum_173 : decode cX8_checksum 173 = .ok (.iload_n 3, 1) := by decide +kernel
theorem dX8_checksum_174 : decode cX8_checksum 174 = .ok (.iaload, 1) := by decide +kernel
theorem dX8_checksum_175 : decode cX8_checksum 175 = .ok (.invokestatic 265, 3) := by decide +kernel
theorem dX8_checksum_178 : decode cX8_checksum 178 = .ok (.lstore_n 1, 1) := by decide +kernel
theorem dX8_checksum_179 : decode cX8_checksum 179 = .ok (.iinc 3 1, 3) := by decide +kernel
theorem dX8_checksum_182 : decode cX8_checksum 182 = .ok (.goto (-23), 3) := by decide +kernel
theorem dX8_checksum_185 : decode cX8_checksum 185 = .ok (.lload_n 1, 1) := by decide +kernel
theorem dX8_checksum_186 : decode cX8_checksum 186 = .ok (.aload_n 0, 1) := by decide +kernel
theorem dX8_checksum_187 : decode cX8_checksum 187 = .ok (.getfield 22, 3) := by decide +kernel
theorem dX8_checksum_190 : decode cX8_checksum 190 = .ok (.getfield 255, 3) := by decide +kernel
theorem dX8_checksum_193 : decode cX8_checksum 193 = .ok (.invokestatic 265, 3) := by decide +kernel
theorem dX8_checksum_196 : decode cX8_checksum 196 = .ok (.lreturn, 1) := by decide +kernel
set_option maxRecDepth 20000 in
theorem ggX8_mixRooms_X7_aboutRoom : GoodIn wsX8_mixRooms wsX7_aboutRoom := goodIn_r _ [8, 9, 10, 11, 12, 13, 14, 15, 16, 17, 18, 19, 20, 21, 22, 23, 24, 7, 25, 26, 27, 28, 29, 30, 31, 32, 33, 34, 35, 36, 37, 38, 39, 40, 41, 42, 43, 44, 45, 46, 47, 48, 49, 50, 51, 52, 70, 71, 72, 73, 74, 75, 76, 77, 78, 79, 80, 81, 82, 83, 84, 85, 86, 87, 88, 89, 90, 91, 92, 93] (by decide +kernel) (by decide +kernel)
set_option maxRecDepth 20000 in
theorem gX8_mixRooms_X7_aboutRoom : GoodIn wsX8_mixRooms (wsV RX8 125 RX7 yX7_aboutRoom wsX7_aboutRoom) := goodIn_app (goodIn_of _ (by decide +kernel)) ggX8_mixRooms_X7_aboutRoom
set_option maxRecDepth 20000 in
theorem ggX8_mixRooms_X8_mix : GoodIn wsX8_mixRooms wsX8_mix := goodIn_r _ [56, 57] (by decide +kernel) (by decide +kernel)
set_option maxRecDepth 20000 in
theorem gX8_mixRooms_X8_mix : GoodIn wsX8_mixRooms (va_wsS RX8 265 yX8_mix wsX8_mix) := goodIn_app (goodIn_of _ (by decide +kernel)) ggX8_mixRooms_X8_mix
set_option maxRecDepth 20000 in
theorem ggX8_mixRooms_X3_hasOpenDoor : GoodIn wsX8_mixRooms wsX3_hasOpenDoor := goodIn_r _ [62, 63, 64, 65, 61, 66, 78, 79, 80, 81] (by decide +kernel) (by decide +kernel)
set_option maxRecDepth 20000 in
theorem gX8_mixRooms_X3_hasOpenDoor : GoodIn wsX8_mixRooms (wsV RX8 66 RX3 yX3_hasOpenDoor wsX3_hasOpenDoor) := goodIn_app (goodIn_of _ (by decide +kernel)) ggX8_mixRooms_X3_hasOpenDoor
theorem dX8_mixRooms_0 : decode cX8_mixRooms 0 = .ok (.lload_n 1, 1) := by decide +kernel
theorem dX8_mixRooms_1 : decode cX8_mixRooms 1 = .ok (.lstore_n 3, 1) := by decide +kernel
theorem dX8_mixRooms_2 : decode cX8_mixRooms 2 = .ok (.iconst 0, 1) := by decide +kernel
theorem dX8_mixRooms_3 : decode cX8_mixRooms 3 = .ok (.istore 5, 2) := by decide +kernel
theorem dX8_mixRooms_5 : decode cX8_mixRooms 5 = .ok (.iload 5, 2) := by decide +kernel
theorem dX8_mixRooms_7 : decode cX8_mixRooms 7 = .ok (.aload_n 0, 1) := by decide +kernel
theorem dX8_mixRooms_8 : decode cX8_mixRooms 8 = .ok (.getfield 10, 3) := by decide +kernel
theorem dX8_mixRooms_11 : decode cX8_mixRooms 11 = .ok (.getfield 37, 3) := by decide +kernel
theorem dX8_mixRooms_14 : decode cX8_mixRooms 14 = .ok (.getfield 41, 3) := by decide +kernel
theorem dX8_mixRooms_17 : decode cX8_mixRooms 17 = .ok (.if_icmp .ge 95, 3) := by decide +kernel
theorem dX8_mixRooms_20 : decode cX8_mixRooms 20 = .ok (.iconst 0, 1) := by decide +kernel
theorem dX8_mixRooms_21 : decode cX8_mixRooms 21 = .ok (.istore 6, 2) := by decide +kernel
theorem dX8_mixRooms_23 : decode cX8_mixRooms 23 = .ok (.iload 6, 2) := by decide +kernel
theorem dX8_mixRooms_25 : decode cX8_mixRooms 25 = .ok (.bipush 7, 2) := by decide +kernel
theorem dX8_mixRooms_27 : decode cX8_mixRooms 27 = .ok (.if_icmp .ge 25, 3) := by decide +kernel
theorem dX8_mixRooms_30 : decode cX8_mixRooms 30 = .ok (.lload_n 3, 1) := by decide +kernel
theorem dX8_mixRooms_31 : decode cX8_mixRooms 31 = .ok (.aload_n 0, 1) := by decide +kernel
theorem dX8_mixRooms_32 : decode cX8_mixRooms 32 = .ok (.getfield 10, 3) := by decide +kernel
theorem dX8_mixRooms_35 : decode cX8_mixRooms 35 = .ok (.iload 5, 2) := by decide +kernel
theorem dX8_mixRooms_37 : decode cX8_mixRooms 37 = .ok (.iload 6, 2) := by decide +kernel
theorem dX8_mixRooms_39 : decode cX8_mixRooms 39 = .ok (.invokevirtual 125, 3) := by decide +kernel
theorem dX8_mixRooms_42 : decode cX8_mixRooms 42 = .ok (.invokestatic 265, 3) := by decide +kernel
theorem dX8_mixRooms_45 : decode cX8_mixRooms 45 = .ok (.lstore_n 3, 1) := by decide +kernel
theorem dX8_mixRooms_46 : decode cX8_mixRooms 46 = .ok (.iinc 6 1, 3) := by decide +kernel
theorem dX8_mixRooms_49 : decode cX8_mixRooms 49 = .ok (.goto (-26), 3) := by decide +kernel
theorem dX8_mixRooms_52 : decode cX8_mixRooms 52 = .ok (.iload 5, 2) := by decide +kernel
theorem dX8_mixRooms_54 : decode cX8_mixRooms 54 = .ok (.iconst 1, 1) := by decide +kernel
theorem dX8_mixRooms_55 : decode cX8_mixRooms 55 = .ok (.iadd, 1) := by decide +kernel
theorem dX8_mixRooms_56 : decode cX8_mixRooms 56 = .ok (.istore 6, 2) := by decide +kernel
theorem dX8_mixRooms_58 : decode cX8_mixRooms 58 = .ok (.iload 6, 2) := by decide +kernel
theorem dX8_mixRooms_60 : decode cX8_mixRooms 60 = .ok (.aload_n 0, 1) := by decide +kernel
theorem dX8_mixRooms_61 : decode cX8_mixRooms 61 = .ok (.getfield 10, 3) := by decide +kernel
theorem dX8_mixRooms_64 : decode cX8_mixRooms 64 = .ok (.getfield 37, 3) := by decide +kernel
theorem dX8_mixRooms_67 : decode cX8_mixRooms 67 = .ok (.getfield 41, 3) := by decide +kernel
theorem dX8_mixRooms_70 : decode cX8_mixRooms 70 = .ok (.if_icmp .gt 36, 3) := by decide +kernel
theorem dX8_mixRooms_73 : decode cX8_mixRooms 73 = .ok (.lload_n 3, 1) := by decide +kernel
theorem dX8_mixRooms_74 : decode cX8_mixRooms 74 = .ok (.aload_n 0, 1) := by decide +kernel
theorem dX8_mixRooms_75 : decode cX8_mixRooms 75 = .ok (.getfield 10, 3) := by decide +kernel
theorem dX8_mixRooms_78 : decode cX8_mixRooms 78 = .ok (.getfield 37, 3) := by decide +kernel
theorem dX8_mixRooms_81 : decode cX8_mixRooms 81 = .ok (.iload 5, 2) := by decide +kernel
theorem dX8_mixRooms_83 : decode cX8_mixRooms 83 = .ok (.iload 6, 2) := by decide +kernel
theorem dX8_mixRooms_85 : decode cX8_mixRooms 85 = .ok (.invokevirtual 66, 3) := by decide +kernel
theorem dX8_mixRooms_88 : decode cX8_mixRooms 88 = .ok (.ifCond .eq 7, 3) := by decide +kernel
theorem dX8_mixRooms_91 : decode cX8_mixRooms 91 = .ok (.iconst 1, 1) := by decide +kernel
theorem dX8_mixRooms_92 : decode cX8_mixRooms 92 = .ok (.goto 4, 3) := by decide +kernel
theorem dX8_mixRooms_95 : decode cX8_mixRooms 95 = .ok (.iconst 0, 1) := by decide +kernel
theorem dX8_mixRooms_96 : decode cX8_mixRooms 96 = .ok (.invokestatic 265, 3) := by decide +kernel
theorem dX8_mixRooms_99 : decode cX8_mixRooms 99 = .ok (.lstore_n 3, 1) := by decide +kernel
theorem dX8_mixRooms_100 : decode cX8_mixRooms 100 = .ok (.iinc 6 1, 3) := by decide +kernel
theorem dX8_mixRooms_103 : decode cX8_mixRooms 103 = .ok (.goto (-45), 3) := by decide +kernel
theorem dX8_mixRooms_106 : decode cX8_mixRooms 106 = .ok (.iinc 5 1, 3) := by decide +kernel
theorem dX8_mixRooms_109 : decode cX8_mixRooms 109 = .ok (.goto (-104), 3) := by decide +kernel
theorem dX8_mixRooms_112 : decode cX8_mixRooms 112 = .ok (.lload_n 3, 1) := by decide +kernel
theorem dX8_mixRooms_113 : decode cX8_mixRooms 113 = .ok (.lreturn, 1) := by decide +kernel
theorem dX8_mix_0 : decode cX8_mix 0 = .ok (.ldc2_w 273, 3) := by decide +kernel
theorem dX8_mix_3 : decode cX8_mix 3 = .ok (.lload_n 0, 1) := by decide +kernel
theorem dX8_mix_4 : decode cX8_mix 4 = .ok (.lmul, 1) := by decide +kernel
theorem dX8_mix_5 : decode cX8_mix 5 = .ok (.iload_n 2, 1) := by decide +kernel
theorem dX8_mix_6 : decode cX8_mix 6 = .ok (.i2l, 1) := by decide +kernel
theorem dX8_mix_7 : decode cX8_mix 7 = .ok (.ladd, 1) := by decide +kernel
theorem dX8_mix_8 : decode cX8_mix 8 = .ok (.lreturn, 1) := by decide +kernel
theorem dX8_isWithin_0 : decode cX8_isWithin 0 = .ok (.iload_n 0, 1) := by decide +kernel
theorem dX8_isWithin_1 : decode cX8_isWithin 1 = .ok (.iload_n 1, 1) := by decide +kernel
theorem dX8_isWithin_2 : decode cX8_isWithin 2 = .ok (.if_icmp .lt 12, 3) := by decide +kernel
theorem dX8_isWithin_5 : decode cX8_isWithin 5 = .ok (.iload_n 0, 1) := by decide +kernel
theorem dX8_isWithin_6 : decode cX8_isWithin 6 = .ok (.iload_n 2, 1) := by decide +kernel
theorem dX8_isWithin_7 : decode cX8_isWithin 7 = .ok (.if_icmp .gt 7, 3) := by decide +kernel
theorem dX8_isWithin_10 : decode cX8_isWithin 10 = .ok (.iconst 1, 1) := by decide +kernel
theorem dX8_isWithin_11 : decode cX8_isWithin 11 = .ok (.goto 4, 3) := by decide +kernel
theorem dX8_isWithin_14 : decode cX8_isWithin 14 = .ok (.iconst 0, 1) := by decide +kernel
theorem dX8_isWithin_15 : decode cX8_isWithin 15 = .ok (.ireturn, 1) := by decide +kernel
set_option maxRecDepth 20000 in
theorem ggX8_firstAlarm_X7_letMinutePass : GoodIn wsX8_firstAlarm wsX7_letMinutePass := goodIn_r _ [7, 8, 9, 10, 11, 12, 13, 14, 15, 16, 6, 17, 18, 19, 20, 21, 22, 23, 24, 25, 26, 27, 28, 29, 30, 31, 32, 33, 34, 35, 36, 37, 38, 39, 40, 41, 42, 43, 44, 45, 46, 47, 48, 49, 50, 51, 52, 53, 54, 55, 56, 57, 58, 59, 60, 61, 62, 63, 64, 65, 66, 67, 68, 69, 70, 71, 72, 73, 74, 75, 76, 77, 78, 79, 80, 81, 82, 83, 84, 85, 86, 87, 88, 89, 90, 91, 92, 93, 94, 95, 96, 97, 98, 99, 100, 101, 102, 103, 104, 105, 106, 107, 108, 109, 110, 111, 112, 113, 114, 115, 116, 117, 118, 119, 120, 121, 122, 123, 124, 125, 126, 127, 128, 129, 130, 131, 132, 133, 134, 135, 136, 137, 138, 139, 140, 141, 142, 143, 144, 145, 146, 147, 148, 149, 150, 151, 152, 153, 154, 155, 156, 157, 158, 159, 160, 161, 162, 163, 164, 165, 166, 167, 168, 169, 170, 171, 172, 173, 174, 175, 176, 177, 178, 179, 180, 181, 182, 183, 184, 185, 186, 187, 188, 189, 190, 191, 192, 193, 194, 195, 196, 197, 198, 199, 200, 201, 202, 203, 204, 205, 206, 207, 208, 209, 210, 211, 212, 217, 218, 219, 220, 221, 222, 223, 224, 225, 226, 227, 228, 229, 230, 231, 232, 233, 234, 235, 236, 237, 238, 239, 240, 241, 242, 243, 244, 245, 246, 247, 248, 249, 250, 251, 252, 253, 254, 255, 256] (by decide +kernel) (by decide +kernel)
set_option maxRecDepth 20000 in
theorem gX8_firstAlarm_X7_letMinutePass : GoodIn wsX8_firstAlarm (wsV RX8 230 RX7 yX7_letMinutePass wsX7_letMinutePass) := goodIn_app (goodIn_of _ (by decide +kernel)) ggX8_firstAlarm_X7_letMinutePass
set_option maxRecDepth 20000 in
theorem ggX8_firstAlarm_X0_soundsIn : GoodIn wsX8_firstAlarm wsX0_soundsIn := goodIn_r _ [141, 142, 143, 248, 249, 250, 251] (by decide +kernel) (by decide +kernel)
set_option maxRecDepth 20000 in
theorem gX8_firstAlarm_X0_soundsIn : GoodIn wsX8_firstAlarm (wsV RX8 238 RX0 yX0_soundsIn wsX0_soundsIn) := goodIn_app (goodIn_of _ (by decide +kernel)) ggX8_firstAlarm_X0_soundsIn
theorem dX8_firstAlarm_0 : decode cX8_firstAlarm 0 = .ok (.iconst 1, 1) := by decide +kernel
theorem dX8_firstAlarm_1 : decode cX8_firstAlarm 1 = .ok (.istore_n 3, 1) := by decide +kernel
theorem dX8_firstAlarm_2 : decode cX8_firstAlarm 2 = .ok (.iload_n 3, 1) := by decide +kernel
theorem dX8_firstAlarm_3 : decode cX8_firstAlarm 3 = .ok (.iload_n 2, 1) := by decide +kernel
theorem dX8_firstAlarm_4 : decode cX8_firstAlarm 4 = .ok (.if_icmp .gt 33, 3) := by decide +kernel
theorem dX8_firstAlarm_7 : decode cX8_firstAlarm 7 = .ok (.aload_n 0, 1) := by decide +kernel
theorem dX8_firstAlarm_8 : decode cX8_firstAlarm 8 = .ok (.getfield 16, 3) := by decide +kernel
theorem dX8_firstAlarm_11 : decode cX8_firstAlarm 11 = .ok (.invokevirtual 230, 3) := by decide +kernel
theorem dX8_firstAlarm_14 : decode cX8_firstAlarm 14 = .ok (.pop, 1) := by decide +kernel
theorem dX8_firstAlarm_15 : decode cX8_firstAlarm 15 = .ok (.aload_n 0, 1) := by decide +kernel
theorem dX8_firstAlarm_16 : decode cX8_firstAlarm 16 = .ok (.getfield 16, 3) := by decide +kernel
theorem dX8_firstAlarm_19 : decode cX8_firstAlarm 19 = .ok (.getfield 219, 3) := by decide +kernel
theorem dX8_firstAlarm_22 : decode cX8_firstAlarm 22 = .ok (.iload_n 1, 1) := by decide +kernel
theorem dX8_firstAlarm_23 : decode cX8_firstAlarm 23 = .ok (.invokevirtual 238, 3) := by decide +kernel
theorem dX8_firstAlarm_26 : decode cX8_firstAlarm 26 = .ok (.ifCond .eq 5, 3) := by decide +kernel
theorem dX8_firstAlarm_29 : decode cX8_firstAlarm 29 = .ok (.iload_n 3, 1) := by decide +kernel
theorem dX8_firstAlarm_30 : decode cX8_firstAlarm 30 = .ok (.ireturn, 1) := by decide +kernel
theorem dX8_firstAlarm_31 : decode cX8_firstAlarm 31 = .ok (.iinc 3 1, 3) := by decide +kernel
theorem dX8_firstAlarm_34 : decode cX8_firstAlarm 34 = .ok (.goto (-32), 3) := by decide +kernel
theorem dX8_firstAlarm_37 : decode cX8_firstAlarm 37 = .ok (.iconst (-1), 1) := by decide +kernel
theorem dX8_firstAlarm_38 : decode cX8_firstAlarm 38 = .ok (.ireturn, 1) := by decide +kernel
set_option maxRecDepth 20000 in
theorem ggX8_greatestSmoke_X7_copyFrom : GoodIn wsX8_greatestSmoke wsX7_copyFrom := goodIn_r _ [17, 18, 19, 20, 21, 22, 23, 24, 25, 26, 27, 28, 29, 30, 31, 32, 33, 34, 35, 36, 37, 38, 11, 39, 40, 41, 42, 43, 44, 45, 46, 47, 48, 49, 50, 51, 52, 53, 54, 55, 56, 57, 58, 59, 60, 61, 62, 63, 64, 65, 66, 67, 68, 69, 70, 71, 72, 73, 74, 75, 76, 77, 78, 79, 80, 81, 82, 83, 84, 85, 86, 87, 88, 89, 90, 91, 92, 93, 94, 95, 96, 270, 271, 272, 273, 274, 275, 276, 277, 284, 285, 286, 287, 278, 279, 280, 281, 282, 283, 288, 289, 290, 291, 292, 293, 294, 295, 296, 297, 298, 299, 300, 301, 302, 303, 304, 305, 306, 307, 308, 309] (by decide +kernel) (by decide +kernel)
set_option maxRecDepth 20000 in
theorem gX8_greatestSmoke_X7_copyFrom : GoodIn wsX8_greatestSmoke (wsV RX8 241 RX7 yX7_copyFrom wsX7_copyFrom) := goodIn_app (goodIn_of _ (by decide +kernel)) ggX8_greatestSmoke_X7_copyFrom
set_option maxRecDepth 20000 in
theorem ggX8_greatestSmoke_X5_clear : GoodIn wsX8_greatestSmoke wsX5_clear := goodIn_r _ [100, 82, 300, 301, 302, 303, 304] (by decide +kernel) (by decide +kernel)
set_option maxRecDepth 20000 in
theorem gX8_greatestSmoke_X5_clear : GoodIn wsX8_greatestSmoke (wsV RX8 275 RX5 yX5_clear wsX5_clear) := goodIn_app (goodIn_of _ (by decide +kernel)) ggX8_greatestSmoke_X5_clear
set_option maxRecDepth 20000 in
theorem ggX8_greatestSmoke_X7_letMinutePass : GoodIn wsX8_greatestSmoke wsX7_letMinutePass := goodIn_r _ [104, 18, 20, 25, 19, 21, 105, 106, 107, 108, 16, 109, 24, 110, 111, 112, 90, 113, 92, 93, 114, 115, 116, 117, 118, 119, 120, 121, 122, 123, 124, 125, 126, 29, 127, 32, 128, 129, 130, 131, 132, 133, 47, 134, 49, 135, 38, 11, 39, 136, 137, 138, 58, 139, 60, 140, 141, 142, 143, 144, 145, 146, 147, 94, 95, 96, 148, 149, 150, 151, 152, 153, 154, 155, 52, 156, 10, 12, 50, 157, 158, 159, 160, 161, 162, 163, 164, 165, 166, 51, 167, 168, 169, 170, 31, 171, 33, 172, 173, 174, 175, 176, 177, 178, 179, 180, 181, 182, 183, 184, 185, 186, 187, 188, 189, 190, 191, 192, 193, 194, 195, 196, 197, 67, 198, 199, 200, 201, 202, 203, 22, 204, 205, 206, 71, 207, 75, 76, 208, 209, 210, 211, 212, 213, 214, 215, 216, 61, 217, 218, 219, 220, 66, 64, 221, 222, 223, 224, 225, 226, 227, 228, 229, 230, 231, 65, 232, 233, 234, 235, 236, 74, 237, 238, 239, 240, 23, 241, 242, 243, 244, 245, 246, 247, 248, 249, 250, 251, 252, 253, 254, 255, 256, 257, 258, 259, 260, 261, 80, 262, 82, 263, 264, 265, 266, 54, 53, 270, 271, 272, 273, 274, 275, 276, 277, 288, 289, 290, 291, 292, 293, 294, 295, 305, 306, 307, 308, 309, 278, 279, 280, 281, 282, 283, 284, 285, 286, 287, 296, 297, 298, 299, 300, 301, 302, 303, 304] (by decide +kernel) (by decide +kernel)
set_option maxRecDepth 20000 in
theorem gX8_greatestSmoke_X7_letMinutePass : GoodIn wsX8_greatestSmoke (wsV RX8 230 RX7 yX7_letMinutePass wsX7_letMinutePass) := goodIn_app (goodIn_of _ (by decide +kernel)) ggX8_greatestSmoke_X7_letMinutePass
theorem dX8_greatestSmoke_0 : decode cX8_greatestSmoke 0 = .ok (.aload_n 0, 1) := by decide +kernel
theorem dX8_greatestSmoke_1 : decode cX8_greatestSmoke 1 = .ok (.getfield 16, 3) := by decide +kernel
theorem dX8_greatestSmoke_4 : decode cX8_greatestSmoke 4 = .ok (.aload_n 0, 1) := by decide +kernel
theorem dX8_greatestSmoke_5 : decode cX8_greatestSmoke 5 = .ok (.getfield 10, 3) := by decide +kernel
theorem dX8_greatestSmoke_8 : decode cX8_greatestSmoke 8 = .ok (.invokevirtual 241, 3) := by decide +kernel
theorem dX8_greatestSmoke_11 : decode cX8_greatestSmoke 11 = .ok (.aload_n 0, 1) := by decide +kernel
theorem dX8_greatestSmoke_12 : decode cX8_greatestSmoke 12 = .ok (.getfield 16, 3) := by decide +kernel
theorem dX8_greatestSmoke_15 : decode cX8_greatestSmoke 15 = .ok (.getfield 166, 3) := by decide +kernel
theorem dX8_greatestSmoke_18 : decode cX8_greatestSmoke 18 = .ok (.invokevirtual 275, 3) := by decide +kernel
theorem dX8_greatestSmoke_21 : decode cX8_greatestSmoke 21 = .ok (.aload_n 0, 1) := by decide +kernel
theorem dX8_greatestSmoke_22 : decode cX8_greatestSmoke 22 = .ok (.getfield 16, 3) := by decide +kernel
theorem dX8_greatestSmoke_25 : decode cX8_greatestSmoke 25 = .ok (.getfield 76, 3) := by decide +kernel
theorem dX8_greatestSmoke_28 : decode cX8_greatestSmoke 28 = .ok (.iload_n 2, 1) := by decide +kernel
theorem dX8_greatestSmoke_29 : decode cX8_greatestSmoke 29 = .ok (.putfield 278, 3) := by decide +kernel
theorem dX8_greatestSmoke_32 : decode cX8_greatestSmoke 32 = .ok (.aload_n 0, 1) := by decide +kernel
theorem dX8_greatestSmoke_33 : decode cX8_greatestSmoke 33 = .ok (.getfield 16, 3) := by decide +kernel
theorem dX8_greatestSmoke_36 : decode cX8_greatestSmoke 36 = .ok (.getfield 76, 3) := by decide +kernel
theorem dX8_greatestSmoke_39 : decode cX8_greatestSmoke 39 = .ok (.iload_n 2, 1) := by decide +kernel
theorem dX8_greatestSmoke_40 : decode cX8_greatestSmoke 40 = .ok (.putfield 90, 3) := by decide +kernel
theorem dX8_greatestSmoke_43 : decode cX8_greatestSmoke 43 = .ok (.iconst 0, 1) := by decide +kernel
theorem dX8_greatestSmoke_44 : decode cX8_greatestSmoke 44 = .ok (.istore 4, 2) := by decide +kernel
theorem dX8_greatestSmoke_46 : decode cX8_greatestSmoke 46 = .ok (.iconst 0, 1) := by decide +kernel
theorem dX8_greatestSmoke_47 : decode cX8_greatestSmoke 47 = .ok (.istore 5, 2) := by decide +kernel
theorem dX8_greatestSmoke_49 : decode cX8_greatestSmoke 49 = .ok (.iload 5, 2) := by decide +kernel
theorem dX8_greatestSmoke_51 : decode cX8_greatestSmoke 51 = .ok (.iload_n 3, 1) := by decide +kernel
theorem dX8_greatestSmoke_52 : decode cX8_greatestSmoke 52 = .ok (.if_icmp .ge 36, 3) := by decide +kernel
theorem dX8_greatestSmoke_55 : decode cX8_greatestSmoke 55 = .ok (.aload_n 0, 1) := by decide +kernel
theorem dX8_greatestSmoke_56 : decode cX8_greatestSmoke 56 = .ok (.getfield 16, 3) := by decide +kernel
theorem dX8_greatestSmoke_59 : decode cX8_greatestSmoke 59 = .ok (.invokevirtual 230, 3) := by decide +kernel
theorem dX8_greatestSmoke_62 : decode cX8_greatestSmoke 62 = .ok (.pop, 1) := by decide +kernel
theorem dX8_greatestSmoke_63 : decode cX8_greatestSmoke 63 = .ok (.iload 4, 2) := by decide +kernel
theorem dX8_greatestSmoke_65 : decode cX8_greatestSmoke 65 = .ok (.aload_n 0, 1) := by decide +kernel
theorem dX8_greatestSmoke_66 : decode cX8_greatestSmoke 66 = .ok (.getfield 16, 3) := by decide +kernel
theorem dX8_greatestSmoke_69 : decode cX8_greatestSmoke 69 = .ok (.getfield 37, 3) := by decide +kernel
theorem dX8_greatestSmoke_72 : decode cX8_greatestSmoke 72 = .ok (.getfield 118, 3) := by decide +kernel
theorem dX8_greatestSmoke_75 : decode cX8_greatestSmoke 75 = .ok (.iload_n 1, 1) := by decide +kernel
theorem dX8_greatestSmoke_76 : decode cX8_greatestSmoke 76 = .ok (.iaload, 1) := by decide +kernel
theorem dX8_greatestSmoke_77 : decode cX8_greatestSmoke 77 = .ok (.invokestatic 281, 3) := by decide +kernel
theorem dX8_greatestSmoke_80 : decode cX8_greatestSmoke 80 = .ok (.istore 4, 2) := by decide +kernel
theorem dX8_greatestSmoke_82 : decode cX8_greatestSmoke 82 = .ok (.iinc 5 1, 3) := by decide +kernel
theorem dX8_greatestSmoke_85 : decode cX8_greatestSmoke 85 = .ok (.goto (-36), 3) := by decide +kernel
theorem dX8_greatestSmoke_88 : decode cX8_greatestSmoke 88 = .ok (.iload 4, 2) := by decide +kernel
theorem dX8_greatestSmoke_90 : decode cX8_greatestSmoke 90 = .ok (.ireturn, 1) := by decide +kernel
theorem dX8_copyRow_0 : decode cX8_copyRow 0 = .ok (.aload_n 0, 1) := by decide +kernel
theorem dX8_copyRow_1 : decode cX8_copyRow 1 = .ok (.iconst 0, 1) := by decide +kernel
theorem dX8_copyRow_2 : decode cX8_copyRow 2 = .ok (.aload_n 1, 1) := by decide +kernel
theorem dX8_copyRow_3 : decode cX8_copyRow 3 = .ok (.iconst 0, 1) := by decide +kernel
theorem dX8_copyRow_4 : decode cX8_copyRow 4 = .ok (.aload_n 0, 1) := by decide +kernel
theorem dX8_copyRow_5 : decode cX8_copyRow 5 = .ok (.arraylength, 1) := by decide +kernel
theorem dX8_copyRow_6 : decode cX8_copyRow 6 = .ok (.aload_n 1, 1) := by decide +kernel
theorem dX8_copyRow_7 : decode cX8_copyRow 7 = .ok (.arraylength, 1) := by decide +kernel
theorem dX8_copyRow_8 : decode cX8_copyRow 8 = .ok (.invokestatic 286, 3) := by decide +kernel
theorem dX8_copyRow_11 : decode cX8_copyRow 11 = .ok (.invokestatic 289, 3) := by decide +kernel
theorem dX8_copyRow_14 : decode cX8_copyRow 14 = .ok (.return_, 1) := by decide +kernel
