set_option maxRecDepth 20000 in
theorem ggX7_init_X3_init : GoodIn wsX7_init wsX3_init := goodIn_r _ [31, 32, 2, 3, 33, 28, 34, 35, 72, 73, 74, 75] (by decide +kernel) (by decide +kernel)
set_option maxRecDepth 20000 in
theorem gX7_init_X3_init_n11 : GoodIn wsX7_init (wsX3_init) := ggX7_init_X3_init
set_option maxRecDepth 20000 in
theorem ggX7_init_X2_init : GoodIn wsX7_init wsX2_init := goodIn_r _ [37, 38, 2, 3, 39, 40, 84, 85, 86, 87, 88, 89] (by decide +kernel) (by decide +kernel)
set_option maxRecDepth 20000 in
theorem gX7_init_X2_init_n20 : GoodIn wsX7_init (wsX2_init) := ggX7_init_X2_init
set_option maxRecDepth 20000 in
theorem ggX7_init_X6_init : GoodIn wsX7_init wsX6_init := goodIn_r _ [42, 43, 2, 3, 28, 44, 45, 46, 47, 48, 49, 50, 90, 91, 92, 93, 94, 95, 96, 97] (by decide +kernel) (by decide +kernel)
set_option maxRecDepth 20000 in
theorem gX7_init_X6_init_n27 : GoodIn wsX7_init (wsX6_init) := ggX7_init_X6_init
set_option maxRecDepth 20000 in
theorem ggX7_init_X0_init : GoodIn wsX7_init wsX0_init := goodIn_r _ [52, 53, 2, 3, 54, 55, 28, 56, 57, 98, 99, 100, 101] (by decide +kernel) (by decide +kernel)
set_option maxRecDepth 20000 in
theorem gX7_init_X0_init_n34 : GoodIn wsX7_init (wsX0_init) := ggX7_init_X0_init
set_option maxRecDepth 20000 in
theorem ggX7_init_X5_init : GoodIn wsX7_init wsX5_init := goodIn_r _ [59, 60, 2, 3, 28, 61, 62, 63, 64, 102, 103, 104, 105, 106] (by decide +kernel) (by decide +kernel)
set_option maxRecDepth 20000 in
theorem gX7_init_X5_init_n41 : GoodIn wsX7_init (wsX5_init) := ggX7_init_X5_init
set_option maxRecDepth 20000 in
theorem ggX7_init_X1_init : GoodIn wsX7_init wsX1_init := goodIn_r _ [66, 67, 2, 3, 28, 68, 69, 70, 71, 107, 108, 109, 110, 111] (by decide +kernel) (by decide +kernel)
set_option maxRecDepth 20000 in
theorem gX7_init_X1_init_n48 : GoodIn wsX7_init (wsX1_init) := ggX7_init_X1_init
theorem dX7_init_0 : decode cX7_init 0 = .ok (.aload_n 0, 1) := by decide +kernel
theorem dX7_init_1 : decode cX7_init 1 = .ok (.invokespecial 3, 3) := by decide +kernel
theorem dX7_init_4 : decode cX7_init 4 = .ok (.aload_n 0, 1) := by decide +kernel
theorem dX7_init_5 : decode cX7_init 5 = .ok (.new 9, 3) := by decide +kernel
theorem dX7_init_8 : decode cX7_init 8 = .ok (.dup, 1) := by decide +kernel
theorem dX7_init_9 : decode cX7_init 9 = .ok (.invokespecial 11, 3) := by decide +kernel
theorem dX7_init_12 : decode cX7_init 12 = .ok (.putfield 12, 3) := by decide +kernel
theorem dX7_init_15 : decode cX7_init 15 = .ok (.aload_n 0, 1) := by decide +kernel
theorem dX7_init_16 : decode cX7_init 16 = .ok (.new 18, 3) := by decide +kernel
theorem dX7_init_19 : decode cX7_init 19 = .ok (.dup, 1) := by decide +kernel
theorem dX7_init_20 : decode cX7_init 20 = .ok (.invokespecial 20, 3) := by decide +kernel
theorem dX7_init_23 : decode cX7_init 23 = .ok (.putfield 21, 3) := by decide +kernel
theorem dX7_init_26 : decode cX7_init 26 = .ok (.aload_n 0, 1) := by decide +kernel
theorem dX7_init_27 : decode cX7_init 27 = .ok (.new 25, 3) := by decide +kernel
theorem dX7_init_30 : decode cX7_init 30 = .ok (.dup, 1) := by decide +kernel
theorem dX7_init_31 : decode cX7_init 31 = .ok (.invokespecial 27, 3) := by decide +kernel
theorem dX7_init_34 : decode cX7_init 34 = .ok (.putfield 28, 3) := by decide +kernel
theorem dX7_init_37 : decode cX7_init 37 = .ok (.aload_n 0, 1) := by decide +kernel
theorem dX7_init_38 : decode cX7_init 38 = .ok (.new 32, 3) := by decide +kernel
theorem dX7_init_41 : decode cX7_init 41 = .ok (.dup, 1) := by decide +kernel
theorem dX7_init_42 : decode cX7_init 42 = .ok (.invokespecial 34, 3) := by decide +kernel
theorem dX7_init_45 : decode cX7_init 45 = .ok (.putfield 35, 3) := by decide +kernel
theorem dX7_init_48 : decode cX7_init 48 = .ok (.aload_n 0, 1) := by decide +kernel
theorem dX7_init_49 : decode cX7_init 49 = .ok (.new 39, 3) := by decide +kernel
theorem dX7_init_52 : decode cX7_init 52 = .ok (.dup, 1) := by decide +kernel
theorem dX7_init_53 : decode cX7_init 53 = .ok (.invokespecial 41, 3) := by decide +kernel
theorem dX7_init_56 : decode cX7_init 56 = .ok (.putfield 42, 3) := by decide +kernel
theorem dX7_init_59 : decode cX7_init 59 = .ok (.aload_n 0, 1) := by decide +kernel
theorem dX7_init_60 : decode cX7_init 60 = .ok (.new 46, 3) := by decide +kernel
theorem dX7_init_63 : decode cX7_init 63 = .ok (.dup, 1) := by decide +kernel
theorem dX7_init_64 : decode cX7_init 64 = .ok (.invokespecial 48, 3) := by decide +kernel
theorem dX7_init_67 : decode cX7_init 67 = .ok (.putfield 49, 3) := by decide +kernel
theorem dX7_init_70 : decode cX7_init 70 = .ok (.aload_n 0, 1) := by decide +kernel
theorem dX7_init_71 : decode cX7_init 71 = .ok (.bipush 6, 2) := by decide +kernel
theorem dX7_init_73 : decode cX7_init 73 = .ok (.newarray .int, 2) := by decide +kernel
theorem dX7_init_75 : decode cX7_init 75 = .ok (.putfield 53, 3) := by decide +kernel
theorem dX7_init_78 : decode cX7_init 78 = .ok (.return_, 1) := by decide +kernel
set_option maxRecDepth 20000 in
theorem ggX7_startAnew_X3_startAnew : GoodIn wsX7_startAnew wsX3_startAnew := goodIn_r _ [13, 14, 15, 16, 63, 64, 65, 66] (by decide +kernel) (by decide +kernel)
set_option maxRecDepth 20000 in
theorem gX7_startAnew_X3_startAnew : GoodIn wsX7_startAnew (wsV RX7 61 RX3 yX3_startAnew wsX3_startAnew) := goodIn_app (goodIn_of _ (by decide +kernel)) ggX7_startAnew_X3_startAnew
set_option maxRecDepth 20000 in
theorem ggX7_startAnew_X2_startAnew : GoodIn wsX7_startAnew wsX2_startAnew := goodIn_r _ [21, 22, 23, 24, 25, 26, 27, 67, 68, 69, 70, 71, 72] (by decide +kernel) (by decide +kernel)
set_option maxRecDepth 20000 in
theorem gX7_startAnew_X2_startAnew : GoodIn wsX7_startAnew (wsV RX7 65 RX2 yX2_startAnew wsX2_startAnew) := goodIn_app (goodIn_of _ (by decide +kernel)) ggX7_startAnew_X2_startAnew
set_option maxRecDepth 20000 in
theorem ggX7_startAnew_X6_clear : GoodIn wsX7_startAnew wsX6_clear := goodIn_r _ [32, 33, 73, 74, 75, 76, 77, 78, 79, 80] (by decide +kernel) (by decide +kernel)
set_option maxRecDepth 20000 in
theorem gX7_startAnew_X6_clear : GoodIn wsX7_startAnew (wsV RX7 67 RX6 yX6_clear wsX6_clear) := goodIn_app (goodIn_of _ (by decide +kernel)) ggX7_startAnew_X6_clear
set_option maxRecDepth 20000 in
theorem ggX7_startAnew_X0_startAnew : GoodIn wsX7_startAnew wsX0_startAnew := goodIn_r _ [38, 39, 40, 41, 42, 81, 82, 83, 84] (by decide +kernel) (by decide +kernel)
set_option maxRecDepth 20000 in
theorem gX7_startAnew_X0_startAnew : GoodIn wsX7_startAnew (wsV RX7 70 RX0 yX0_startAnew wsX0_startAnew) := goodIn_app (goodIn_of _ (by decide +kernel)) ggX7_startAnew_X0_startAnew
set_option maxRecDepth 20000 in
theorem ggX7_startAnew_X5_clear : GoodIn wsX7_startAnew wsX5_clear := goodIn_r _ [47, 48, 85, 86, 87, 88, 89] (by decide +kernel) (by decide +kernel)
set_option maxRecDepth 20000 in
theorem gX7_startAnew_X5_clear : GoodIn wsX7_startAnew (wsV RX7 71 RX5 yX5_clear wsX5_clear) := goodIn_app (goodIn_of _ (by decide +kernel)) ggX7_startAnew_X5_clear
set_option maxRecDepth 20000 in
theorem ggX7_startAnew_X1_clear : GoodIn wsX7_startAnew wsX1_clear := goodIn_r _ [53, 54, 90, 91, 92, 93, 94] (by decide +kernel) (by decide +kernel)
set_option maxRecDepth 20000 in
theorem gX7_startAnew_X1_clear : GoodIn wsX7_startAnew (wsV RX7 72 RX1 yX1_clear wsX1_clear) := goodIn_app (goodIn_of _ (by decide +kernel)) ggX7_startAnew_X1_clear
theorem dX7_startAnew_0 : decode cX7_startAnew 0 = .ok (.aload_n 0, 1) := by decide +kernel
theorem dX7_startAnew_1 : decode cX7_startAnew 1 = .ok (.iconst 0, 1) := by decide +kernel
theorem dX7_startAnew_2 : decode cX7_startAnew 2 = .ok (.putfield 57, 3) := by decide +kernel
theorem dX7_startAnew_5 : decode cX7_startAnew 5 = .ok (.aload_n 0, 1) := by decide +kernel
theorem dX7_startAnew_6 : decode cX7_startAnew 6 = .ok (.getfield 12, 3) := by decide +kernel
theorem dX7_startAnew_9 : decode cX7_startAnew 9 = .ok (.iload_n 1, 1) := by decide +kernel
theorem dX7_startAnew_10 : decode cX7_startAnew 10 = .ok (.invokevirtual 61, 3) := by decide +kernel
theorem dX7_startAnew_13 : decode cX7_startAnew 13 = .ok (.aload_n 0, 1) := by decide +kernel
theorem dX7_startAnew_14 : decode cX7_startAnew 14 = .ok (.getfield 21, 3) := by decide +kernel
theorem dX7_startAnew_17 : decode cX7_startAnew 17 = .ok (.invokevirtual 65, 3) := by decide +kernel
theorem dX7_startAnew_20 : decode cX7_startAnew 20 = .ok (.aload_n 0, 1) := by decide +kernel
theorem dX7_startAnew_21 : decode cX7_startAnew 21 = .ok (.getfield 28, 3) := by decide +kernel
theorem dX7_startAnew_24 : decode cX7_startAnew 24 = .ok (.invokevirtual 67, 3) := by decide +kernel
theorem dX7_startAnew_27 : decode cX7_startAnew 27 = .ok (.aload_n 0, 1) := by decide +kernel
theorem dX7_startAnew_28 : decode cX7_startAnew 28 = .ok (.getfield 35, 3) := by decide +kernel
theorem dX7_startAnew_31 : decode cX7_startAnew 31 = .ok (.invokevirtual 70, 3) := by decide +kernel
theorem dX7_startAnew_34 : decode cX7_startAnew 34 = .ok (.aload_n 0, 1) := by decide +kernel
theorem dX7_startAnew_35 : decode cX7_startAnew 35 = .ok (.getfield 42, 3) := by decide +kernel
theorem dX7_startAnew_38 : decode cX7_startAnew 38 = .ok (.invokevirtual 71, 3) := by decide +kernel
theorem dX7_startAnew_41 : decode cX7_startAnew 41 = .ok (.aload_n 0, 1) := by decide +kernel
theorem dX7_startAnew_42 : decode cX7_startAnew 42 = .ok (.getfield 49, 3) := by decide +kernel
theorem dX7_startAnew_45 : decode cX7_startAnew 45 = .ok (.invokevirtual 72, 3) := by decide +kernel
theorem dX7_startAnew_48 : decode cX7_startAnew 48 = .ok (.iconst 0, 1) := by decide +kernel
theorem dX7_startAnew_49 : decode cX7_startAnew 49 = .ok (.istore_n 2, 1) := by decide +kernel
theorem dX7_startAnew_50 : decode cX7_startAnew 50 = .ok (.iload_n 2, 1) := by decide +kernel
theorem dX7_startAnew_51 : decode cX7_startAnew 51 = .ok (.bipush 6, 2) := by decide +kernel
theorem dX7_startAnew_53 : decode cX7_startAnew 53 = .ok (.if_icmp .ge 16, 3) := by decide +kernel
theorem dX7_startAnew_56 : decode cX7_startAnew 56 = .ok (.aload_n 0, 1) := by decide +kernel
theorem dX7_startAnew_57 : decode cX7_startAnew 57 = .ok (.getfield 53, 3) := by decide +kernel
theorem dX7_startAnew_60 : decode cX7_startAnew 60 = .ok (.iload_n 2, 1) := by decide +kernel
theorem dX7_startAnew_61 : decode cX7_startAnew 61 = .ok (.iconst 0, 1) := by decide +kernel
theorem dX7_startAnew_62 : decode cX7_startAnew 62 = .ok (.iastore, 1) := by decide +kernel
theorem dX7_startAnew_63 : decode cX7_startAnew 63 = .ok (.iinc 2 1, 3) := by decide +kernel
theorem dX7_startAnew_66 : decode cX7_startAnew 66 = .ok (.goto (-16), 3) := by decide +kernel
theorem dX7_startAnew_69 : decode cX7_startAnew 69 = .ok (.return_, 1) := by decide +kernel
set_option maxRecDepth 20000 in
theorem ggX7_copyFrom_X3_copyFrom : GoodIn wsX7_copyFrom wsX3_copyFrom := goodIn_r _ [13, 14, 15, 16, 17, 18, 19, 20, 21, 22, 23, 24, 25, 26, 27, 89, 90, 91, 92] (by decide +kernel) (by decide +kernel)
set_option maxRecDepth 20000 in
theorem gX7_copyFrom_X3_copyFrom : GoodIn wsX7_copyFrom (wsV RX7 73 RX3 yX3_copyFrom wsX3_copyFrom) := goodIn_app (goodIn_of _ (by decide +kernel)) ggX7_copyFrom_X3_copyFrom
set_option maxRecDepth 20000 in
theorem ggX7_copyFrom_X2_copyFrom : GoodIn wsX7_copyFrom wsX2_copyFrom := goodIn_r _ [32, 33, 34, 35, 36, 37, 38, 93, 94, 95, 96, 97, 98] (by decide +kernel) (by decide +kernel)
set_option maxRecDepth 20000 in
theorem gX7_copyFrom_X2_copyFrom : GoodIn wsX7_copyFrom (wsV RX7 77 RX2 yX2_copyFrom wsX2_copyFrom) := goodIn_app (goodIn_of _ (by decide +kernel)) ggX7_copyFrom_X2_copyFrom
set_option maxRecDepth 20000 in
theorem ggX7_copyFrom_X6_copyFrom : GoodIn wsX7_copyFrom wsX6_copyFrom := goodIn_r _ [43, 44, 45, 46, 47, 48, 49, 50, 51, 17, 18, 19, 20, 21, 22, 23, 24, 25, 26, 27, 99, 100, 101, 102, 103, 104, 105, 106] (by decide +kernel) (by decide +kernel)
set_option maxRecDepth 20000 in
theorem gX7_copyFrom_X6_copyFrom : GoodIn wsX7_copyFrom (wsV RX7 80 RX6 yX6_copyFrom wsX6_copyFrom) := goodIn_app (goodIn_of _ (by decide +kernel)) ggX7_copyFrom_X6_copyFrom
set_option maxRecDepth 20000 in
theorem ggX7_copyFrom_X0_copyFrom : GoodIn wsX7_copyFrom wsX0_copyFrom := goodIn_r _ [56, 57, 58, 59, 60, 17, 18, 19, 20, 21, 22, 23, 24, 25, 26, 27, 107, 108, 109, 110] (by decide +kernel) (by decide +kernel)
set_option maxRecDepth 20000 in
theorem gX7_copyFrom_X0_copyFrom : GoodIn wsX7_copyFrom (wsV RX7 83 RX0 yX0_copyFrom wsX0_copyFrom) := goodIn_app (goodIn_of _ (by decide +kernel)) ggX7_copyFrom_X0_copyFrom
set_option maxRecDepth 20000 in
theorem ggX7_copyFrom_X5_copyFrom : GoodIn wsX7_copyFrom wsX5_copyFrom := goodIn_r _ [65, 66, 67, 68, 69, 70, 17, 18, 19, 20, 21, 22, 23, 24, 25, 26, 27, 111, 112, 113, 114, 115] (by decide +kernel) (by decide +kernel)
set_option maxRecDepth 20000 in
theorem gX7_copyFrom_X5_copyFrom : GoodIn wsX7_copyFrom (wsV RX7 86 RX5 yX5_copyFrom wsX5_copyFrom) := goodIn_app (goodIn_of _ (by decide +kernel)) ggX7_copyFrom_X5_copyFrom
set_option maxRecDepth 20000 in
theorem ggX7_copyFrom_X1_copyFrom : GoodIn wsX7_copyFrom wsX1_copyFrom := goodIn_r _ [75, 76, 77, 78, 79, 80, 17, 18, 19, 20, 21, 22, 23, 24, 25, 26, 27, 116, 117, 118, 119, 120] (by decide +kernel) (by decide +kernel)
set_option maxRecDepth 20000 in
theorem gX7_copyFrom_X1_copyFrom : GoodIn wsX7_copyFrom (wsV RX7 89 RX1 yX1_copyFrom wsX1_copyFrom) := goodIn_app (goodIn_of _ (by decide +kernel)) ggX7_copyFrom_X1_copyFrom
set_option maxRecDepth 20000 in
theorem ggX7_copyFrom_X8_copyRow : GoodIn wsX7_copyFrom wsX8_copyRow := goodIn_r _ [19, 20, 21, 22, 23, 24, 25, 26, 27] (by decide +kernel) (by decide +kernel)
set_option maxRecDepth 20000 in
theorem gX7_copyFrom_X8_copyRow_n92 : GoodIn wsX7_copyFrom (wsX8_copyRow) := ggX7_copyFrom_X8_copyRow
theorem dX7_copyFrom_0 : decode cX7_copyFrom 0 = .ok (.aload_n 0, 1) := by decide +kernel
theorem dX7_copyFrom_1 : decode cX7_copyFrom 1 = .ok (.aload_n 1, 1) := by decide +kernel
theorem dX7_copyFrom_2 : decode cX7_copyFrom 2 = .ok (.getfield 57, 3) := by decide +kernel
theorem dX7_copyFrom_5 : decode cX7_copyFrom 5 = .ok (.putfield 57, 3) := by decide +kernel
theorem dX7_copyFrom_8 : decode cX7_copyFrom 8 = .ok (.aload_n 0, 1) := by decide +kernel
theorem dX7_copyFrom_9 : decode cX7_copyFrom 9 = .ok (.getfield 12, 3) := by decide +kernel
theorem dX7_copyFrom_12 : decode cX7_copyFrom 12 = .ok (.aload_n 1, 1) := by decide +kernel
theorem dX7_copyFrom_13 : decode cX7_copyFrom 13 = .ok (.getfield 12, 3) := by decide +kernel
theorem dX7_copyFrom_16 : decode cX7_copyFrom 16 = .ok (.invokevirtual 73, 3) := by decide +kernel
theorem dX7_copyFrom_19 : decode cX7_copyFrom 19 = .ok (.aload_n 0, 1) := by decide +kernel
theorem dX7_copyFrom_20 : decode cX7_copyFrom 20 = .ok (.getfield 21, 3) := by decide +kernel
theorem dX7_copyFrom_23 : decode cX7_copyFrom 23 = .ok (.aload_n 1, 1) := by decide +kernel
theorem dX7_copyFrom_24 : decode cX7_copyFrom 24 = .ok (.getfield 21, 3) := by decide +kernel
theorem dX7_copyFrom_27 : decode cX7_copyFrom 27 = .ok (.invokevirtual 77, 3) := by decide +kernel
theorem dX7_copyFrom_30 : decode cX7_copyFrom 30 = .ok (.aload_n 0, 1) := by decide +kernel
theorem dX7_copyFrom_31 : decode cX7_copyFrom 31 = .ok (.getfield 28, 3) := by decide +kernel
theorem dX7_copyFrom_34 : decode cX7_copyFrom 34 = .ok (.aload_n 1, 1) := by decide +kernel
theorem dX7_copyFrom_35 : decode cX7_copyFrom 35 = .ok (.getfield 28, 3) := by decide +kernel
theorem dX7_copyFrom_38 : decode cX7_copyFrom 38 = .ok (.invokevirtual 80, 3) := by decide +kernel
theorem dX7_copyFrom_41 : decode cX7_copyFrom 41 = .ok (.aload_n 0, 1) := by decide +kernel
theorem dX7_copyFrom_42 : decode cX7_copyFrom 42 = .ok (.getfield 35, 3) := by decide +kernel
theorem dX7_copyFrom_45 : decode cX7_copyFrom 45 = .ok (.aload_n 1, 1) := by decide +kernel
theorem dX7_copyFrom_46 : decode cX7_copyFrom 46 = .ok (.getfield 35, 3) := by decide +kernel
theorem dX7_copyFrom_49 : decode cX7_copyFrom 49 = .ok (.invokevirtual 83, 3) := by decide +kernel
theorem dX7_copyFrom_52 : decode cX7_copyFrom 52 = .ok (.aload_n 0, 1) := by decide +kernel
theorem dX7_copyFrom_53 : decode cX7_copyFrom 53 = .ok (.getfield 42, 3) := by decide +kernel
theorem dX7_copyFrom_56 : decode cX7_copyFrom 56 = .ok (.aload_n 1, 1) := by decide +kernel
theorem dX7_copyFrom_57 : decode cX7_copyFrom 57 = .ok (.getfield 42, 3) := by decide +kernel
theorem dX7_copyFrom_60 : decode cX7_copyFrom 60 = .ok (.invokevirtual 86, 3) := by decide +kernel
theorem dX7_copyFrom_63 : decode cX7_copyFrom 63 = .ok (.aload_n 0, 1) := by decide +kernel
theorem dX7_copyFrom_64 : decode cX7_copyFrom 64 = .ok (.getfield 49, 3) := by decide +kernel
theorem dX7_copyFrom_67 : decode cX7_copyFrom 67 = .ok (.aload_n 1, 1) := by decide +kernel
theorem dX7_copyFrom_68 : decode cX7_copyFrom 68 = .ok (.getfield 49, 3) := by decide +kernel
theorem dX7_copyFrom_71 : decode cX7_copyFrom 71 = .ok (.invokevirtual 89, 3) := by decide +kernel
theorem dX7_copyFrom_74 : decode cX7_copyFrom 74 = .ok (.aload_n 1, 1) := by decide +kernel
theorem dX7_copyFrom_75 : decode cX7_copyFrom 75 = .ok (.getfield 53, 3) := by decide +kernel
theorem dX7_copyFrom_78 : decode cX7_copyFrom 78 = .ok (.aload_n 0, 1) := by decide +kernel
theorem dX7_copyFrom_79 : decode cX7_copyFrom 79 = .ok (.getfield 53, 3) := by decide +kernel
theorem dX7_copyFrom_82 : decode cX7_copyFrom 82 = .ok (.invokestatic 92, 3) := by decide +kernel
theorem dX7_copyFrom_85 : decode cX7_copyFrom 85 = .ok (.return_, 1) := by decide +kernel
set_option maxRecDepth 20000 in
theorem ggX7_aboutAll_X2_strength : GoodIn wsX7_aboutAll wsX2_strength := goodIn_r _ [24, 25, 41, 42, 43, 44, 45, 46] (by decide +kernel) (by decide +kernel)
set_option maxRecDepth 20000 in
theorem gX7_aboutAll_X2_strength : GoodIn wsX7_aboutAll (wsV RX7 121 RX2 yX2_strength wsX2_strength) := goodIn_app (goodIn_of _ (by decide +kernel)) ggX7_aboutAll_X2_strength
set_option maxRecDepth 20000 in
theorem ggX7_aboutAll_X2_draft : GoodIn wsX7_aboutAll wsX2_draft := goodIn_r _ [29, 30, 31, 32, 41, 42, 43, 44, 45, 46] (by decide +kernel) (by decide +kernel)
set_option maxRecDepth 20000 in
theorem gX7_aboutAll_X2_draft : GoodIn wsX7_aboutAll (wsV RX7 128 RX2 yX2_draft wsX2_draft) := goodIn_app (goodIn_of _ (by decide +kernel)) ggX7_aboutAll_X2_draft
theorem dX7_aboutAll_0 : decode cX7_aboutAll 0 = .ok (.iload_n 1, 1) := by decide +kernel
theorem dX7_aboutAll_1 : decode cX7_aboutAll 1 = .ok (.tableswitch 188 0 13 #[71, 79, 87, 95, 111, 119, 127, 135, 140, 148, 156, 164, 172, 180], 71) := by decide +kernel
theorem dX7_aboutAll_72 : decode cX7_aboutAll 72 = .ok (.aload_n 0, 1) := by decide +kernel
theorem dX7_aboutAll_73 : decode cX7_aboutAll 73 = .ok (.getfield 21, 3) := by decide +kernel
theorem dX7_aboutAll_76 : decode cX7_aboutAll 76 = .ok (.getfield 96, 3) := by decide +kernel
theorem dX7_aboutAll_79 : decode cX7_aboutAll 79 = .ok (.ireturn, 1) := by decide +kernel
theorem dX7_aboutAll_80 : decode cX7_aboutAll 80 = .ok (.aload_n 0, 1) := by decide +kernel
theorem dX7_aboutAll_81 : decode cX7_aboutAll 81 = .ok (.getfield 35, 3) := by decide +kernel
theorem dX7_aboutAll_84 : decode cX7_aboutAll 84 = .ok (.getfield 99, 3) := by decide +kernel
theorem dX7_aboutAll_87 : decode cX7_aboutAll 87 = .ok (.ireturn, 1) := by decide +kernel
theorem dX7_aboutAll_88 : decode cX7_aboutAll 88 = .ok (.aload_n 0, 1) := by decide +kernel
theorem dX7_aboutAll_89 : decode cX7_aboutAll 89 = .ok (.getfield 35, 3) := by decide +kernel
theorem dX7_aboutAll_92 : decode cX7_aboutAll 92 = .ok (.getfield 102, 3) := by decide +kernel
theorem dX7_aboutAll_95 : decode cX7_aboutAll 95 = .ok (.ireturn, 1) := by decide +kernel
theorem dX7_aboutAll_96 : decode cX7_aboutAll 96 = .ok (.aload_n 0, 1) := by decide +kernel
theorem dX7_aboutAll_97 : decode cX7_aboutAll 97 = .ok (.getfield 21, 3) := by decide +kernel
theorem dX7_aboutAll_100 : decode cX7_aboutAll 100 = .ok (.getfield 105, 3) := by decide +kernel
theorem dX7_aboutAll_103 : decode cX7_aboutAll 103 = .ok (.ifCond .eq 7, 3) := by decide +kernel
theorem dX7_aboutAll_106 : decode cX7_aboutAll 106 = .ok (.iconst 1, 1) := by decide +kernel
theorem dX7_aboutAll_107 : decode cX7_aboutAll 107 = .ok (.goto 4, 3) := by decide +kernel
theorem dX7_aboutAll_110 : decode cX7_aboutAll 110 = .ok (.iconst 0, 1) := by decide +kernel
theorem dX7_aboutAll_111 : decode cX7_aboutAll 111 = .ok (.ireturn, 1) := by decide +kernel
theorem dX7_aboutAll_112 : decode cX7_aboutAll 112 = .ok (.aload_n 0, 1) := by decide +kernel
theorem dX7_aboutAll_113 : decode cX7_aboutAll 113 = .ok (.getfield 21, 3) := by decide +kernel
theorem dX7_aboutAll_116 : decode cX7_aboutAll 116 = .ok (.getfield 109, 3) := by decide +kernel
theorem dX7_aboutAll_119 : decode cX7_aboutAll 119 = .ok (.ireturn, 1) := by decide +kernel
theorem dX7_aboutAll_120 : decode cX7_aboutAll 120 = .ok (.aload_n 0, 1) := by decide +kernel
theorem dX7_aboutAll_121 : decode cX7_aboutAll 121 = .ok (.getfield 21, 3) := by decide +kernel
theorem dX7_aboutAll_124 : decode cX7_aboutAll 124 = .ok (.getfield 112, 3) := by decide +kernel
theorem dX7_aboutAll_127 : decode cX7_aboutAll 127 = .ok (.ireturn, 1) := by decide +kernel
theorem dX7_aboutAll_128 : decode cX7_aboutAll 128 = .ok (.aload_n 0, 1) := by decide +kernel
theorem dX7_aboutAll_129 : decode cX7_aboutAll 129 = .ok (.getfield 12, 3) := by decide +kernel
theorem dX7_aboutAll_132 : decode cX7_aboutAll 132 = .ok (.getfield 115, 3) := by decide +kernel
theorem dX7_aboutAll_135 : decode cX7_aboutAll 135 = .ok (.ireturn, 1) := by decide +kernel
theorem dX7_aboutAll_136 : decode cX7_aboutAll 136 = .ok (.aload_n 0, 1) := by decide +kernel
theorem dX7_aboutAll_137 : decode cX7_aboutAll 137 = .ok (.getfield 57, 3) := by decide +kernel
theorem dX7_aboutAll_140 : decode cX7_aboutAll 140 = .ok (.ireturn, 1) := by decide +kernel
theorem dX7_aboutAll_141 : decode cX7_aboutAll 141 = .ok (.aload_n 0, 1) := by decide +kernel
theorem dX7_aboutAll_142 : decode cX7_aboutAll 142 = .ok (.getfield 21, 3) := by decide +kernel
theorem dX7_aboutAll_145 : decode cX7_aboutAll 145 = .ok (.getfield 118, 3) := by decide +kernel
theorem dX7_aboutAll_148 : decode cX7_aboutAll 148 = .ok (.ireturn, 1) := by decide +kernel
theorem dX7_aboutAll_149 : decode cX7_aboutAll 149 = .ok (.aload_n 0, 1) := by decide +kernel
theorem dX7_aboutAll_150 : decode cX7_aboutAll 150 = .ok (.getfield 21, 3) := by decide +kernel
theorem dX7_aboutAll_153 : decode cX7_aboutAll 153 = .ok (.invokevirtual 121, 3) := by decide +kernel
theorem dX7_aboutAll_156 : decode cX7_aboutAll 156 = .ok (.ireturn, 1) := by decide +kernel
theorem dX7_aboutAll_157 : decode cX7_aboutAll 157 = .ok (.aload_n 0, 1) := by decide +kernel
theorem dX7_aboutAll_158 : decode cX7_aboutAll 158 = .ok (.getfield 21, 3) := by decide +kernel
theorem dX7_aboutAll_161 : decode cX7_aboutAll 161 = .ok (.getfield 125, 3) := by decide +kernel
theorem dX7_aboutAll_164 : decode cX7_aboutAll 164 = .ok (.ireturn, 1) := by decide +kernel
theorem dX7_aboutAll_165 : decode cX7_aboutAll 165 = .ok (.aload_n 0, 1) := by decide +kernel
theorem dX7_aboutAll_166 : decode cX7_aboutAll 166 = .ok (.getfield 21, 3) := by decide +kernel
theorem dX7_aboutAll_169 : decode cX7_aboutAll 169 = .ok (.invokevirtual 128, 3) := by decide +kernel
theorem dX7_aboutAll_172 : decode cX7_aboutAll 172 = .ok (.ireturn, 1) := by decide +kernel
theorem dX7_aboutAll_173 : decode cX7_aboutAll 173 = .ok (.aload_n 0, 1) := by decide +kernel
theorem dX7_aboutAll_174 : decode cX7_aboutAll 174 = .ok (.getfield 28, 3) := by decide +kernel
theorem dX7_aboutAll_177 : decode cX7_aboutAll 177 = .ok (.getfield 131, 3) := by decide +kernel
theorem dX7_aboutAll_180 : decode cX7_aboutAll 180 = .ok (.ireturn, 1) := by decide +kernel
theorem dX7_aboutAll_181 : decode cX7_aboutAll 181 = .ok (.aload_n 0, 1) := by decide +kernel
theorem dX7_aboutAll_182 : decode cX7_aboutAll 182 = .ok (.getfield 42, 3) := by decide +kernel
theorem dX7_aboutAll_185 : decode cX7_aboutAll 185 = .ok (.getfield 134, 3) := by decide +kernel
theorem dX7_aboutAll_188 : decode cX7_aboutAll 188 = .ok (.ireturn, 1) := by decide +kernel
theorem dX7_aboutAll_189 : decode cX7_aboutAll 189 = .ok (.aload_n 0, 1) := by decide +kernel
theorem dX7_aboutAll_190 : decode cX7_aboutAll 190 = .ok (.getfield 49, 3) := by decide +kernel
theorem dX7_aboutAll_193 : decode cX7_aboutAll 193 = .ok (.getfield 135, 3) := by decide +kernel
theorem dX7_aboutAll_196 : decode cX7_aboutAll 196 = .ok (.ireturn, 1) := by decide +kernel
theorem dX7_putSetting_0 : decode cX7_putSetting 0 = .ok (.iload_n 1, 1) := by decide +kernel
theorem dX7_putSetting_1 : decode cX7_putSetting 1 = .ok (.tableswitch 99 0 4 #[35, 46, 57, 68, 88], 35) := by decide +kernel
theorem dX7_putSetting_36 : decode cX7_putSetting 36 = .ok (.aload_n 0, 1) := by decide +kernel
theorem dX7_putSetting_37 : decode cX7_putSetting 37 = .ok (.getfield 21, 3) := by decide +kernel
theorem dX7_putSetting_40 : decode cX7_putSetting 40 = .ok (.iload_n 2, 1) := by decide +kernel
theorem dX7_putSetting_41 : decode cX7_putSetting 41 = .ok (.putfield 96, 3) := by decide +kernel
theorem dX7_putSetting_44 : decode cX7_putSetting 44 = .ok (.goto 64, 3) := by decide +kernel
theorem dX7_putSetting_47 : decode cX7_putSetting 47 = .ok (.aload_n 0, 1) := by decide +kernel
theorem dX7_putSetting_48 : decode cX7_putSetting 48 = .ok (.getfield 35, 3) := by decide +kernel
theorem dX7_putSetting_51 : decode cX7_putSetting 51 = .ok (.iload_n 2, 1) := by decide +kernel
theorem dX7_putSetting_52 : decode cX7_putSetting 52 = .ok (.putfield 99, 3) := by decide +kernel
theorem dX7_putSetting_55 : decode cX7_putSetting 55 = .ok (.goto 53, 3) := by decide +kernel
theorem dX7_putSetting_58 : decode cX7_putSetting 58 = .ok (.aload_n 0, 1) := by decide +kernel
theorem dX7_putSetting_59 : decode cX7_putSetting 59 = .ok (.getfield 35, 3) := by decide +kernel
theorem dX7_putSetting_62 : decode cX7_putSetting 62 = .ok (.iload_n 2, 1) := by decide +kernel
theorem dX7_putSetting_63 : decode cX7_putSetting 63 = .ok (.putfield 102, 3) := by decide +kernel
theorem dX7_putSetting_66 : decode cX7_putSetting 66 = .ok (.goto 42, 3) := by decide +kernel
theorem dX7_putSetting_69 : decode cX7_putSetting 69 = .ok (.aload_n 0, 1) := by decide +kernel
theorem dX7_putSetting_70 : decode cX7_putSetting 70 = .ok (.getfield 21, 3) := by decide +kernel
theorem dX7_putSetting_73 : decode cX7_putSetting 73 = .ok (.iload_n 2, 1) := by decide +kernel
theorem dX7_putSetting_74 : decode cX7_putSetting 74 = .ok (.iconst 1, 1) := by decide +kernel
theorem dX7_putSetting_75 : decode cX7_putSetting 75 = .ok (.if_icmp .ne 7, 3) := by decide +kernel
theorem dX7_putSetting_78 : decode cX7_putSetting 78 = .ok (.iconst 1, 1) := by decide +kernel
theorem dX7_putSetting_79 : decode cX7_putSetting 79 = .ok (.goto 4, 3) := by decide +kernel
theorem dX7_putSetting_82 : decode cX7_putSetting 82 = .ok (.iconst 0, 1) := by decide +kernel
theorem dX7_putSetting_83 : decode cX7_putSetting 83 = .ok (.putfield 105, 3) := by decide +kernel
theorem dX7_putSetting_86 : decode cX7_putSetting 86 = .ok (.goto 22, 3) := by decide +kernel
theorem dX7_putSetting_89 : decode cX7_putSetting 89 = .ok (.aload_n 0, 1) := by decide +kernel
theorem dX7_putSetting_90 : decode cX7_putSetting 90 = .ok (.getfield 21, 3) := by decide +kernel
theorem dX7_putSetting_93 : decode cX7_putSetting 93 = .ok (.iload_n 2, 1) := by decide +kernel
theorem dX7_putSetting_94 : decode cX7_putSetting 94 = .ok (.putfield 109, 3) := by decide +kernel
theorem dX7_putSetting_97 : decode cX7_putSetting 97 = .ok (.goto 11, 3) := by decide +kernel
theorem dX7_putSetting_100 : decode cX7_putSetting 100 = .ok (.aload_n 0, 1) := by decide +kernel
theorem dX7_putSetting_101 : decode cX7_putSetting 101 = .ok (.getfield 21, 3) := by decide +kernel
theorem dX7_putSetting_104 : decode cX7_putSetting 104 = .ok (.iload_n 2, 1) := by decide +kernel
theorem dX7_putSetting_105 : decode cX7_putSetting 105 = .ok (.putfield 112, 3) := by decide +kernel
theorem dX7_putSetting_108 : decode cX7_putSetting 108 = .ok (.return_, 1) := by decide +kernel
set_option maxRecDepth 20000 in
theorem ggX7_aboutRoom_X0_soundsIn : GoodIn wsX7_aboutRoom wsX0_soundsIn := goodIn_r _ [11, 12, 13, 58, 59, 60, 61] (by decide +kernel) (by decide +kernel)
set_option maxRecDepth 20000 in
theorem gX7_aboutRoom_X0_soundsIn : GoodIn wsX7_aboutRoom (wsV RX7 145 RX0 yX0_soundsIn wsX0_soundsIn) := goodIn_app (goodIn_of _ (by decide +kernel)) ggX7_aboutRoom_X0_soundsIn
set_option maxRecDepth 20000 in
theorem ggX7_aboutRoom_X7_isAgreedOn : GoodIn wsX7_aboutRoom wsX7_isAgreedOn := goodIn_r _ [18, 6, 3, 19, 20, 21, 22, 23, 24, 25, 26, 27, 28, 29, 30, 31, 32, 33, 34, 35, 36, 37, 38, 39, 40, 41, 42, 43, 44, 45, 46, 47, 48, 49, 50, 51, 52, 53, 58, 59, 60, 61, 62, 63, 64, 65, 66, 67, 68, 69] (by decide +kernel) (by decide +kernel)
set_option maxRecDepth 20000 in
theorem gX7_aboutRoom_X7_isAgreedOn : GoodIn wsX7_aboutRoom (wsV RX7 149 RX7 yX7_isAgreedOn wsX7_isAgreedOn) := goodIn_app (goodIn_of _ (by decide +kernel)) ggX7_aboutRoom_X7_isAgreedOn
set_option maxRecDepth 20000 in
theorem ggX7_aboutRoom_X6_votersIn : GoodIn wsX7_aboutRoom wsX6_votersIn := goodIn_r _ [24, 25, 26, 27, 28, 29, 23, 30, 31, 32, 33, 62, 63, 64, 65, 66, 67, 68, 69] (by decide +kernel) (by decide +kernel)
set_option maxRecDepth 20000 in
theorem gX7_aboutRoom_X6_votersIn : GoodIn wsX7_aboutRoom (wsV RX7 152 RX6 yX6_votersIn wsX6_votersIn) := goodIn_app (goodIn_of _ (by decide +kernel)) ggX7_aboutRoom_X6_votersIn
set_option maxRecDepth 20000 in
theorem ggX7_aboutRoom_X6_weightOf : GoodIn wsX7_aboutRoom wsX6_weightOf := goodIn_r _ [44, 25, 45, 62, 63, 64, 65, 66, 67, 68, 69] (by decide +kernel) (by decide +kernel)
set_option maxRecDepth 20000 in
theorem gX7_aboutRoom_X6_weightOf : GoodIn wsX7_aboutRoom (wsV RX7 156 RX6 yX6_weightOf wsX6_weightOf) := goodIn_app (goodIn_of _ (by decide +kernel)) ggX7_aboutRoom_X6_weightOf
theorem dX7_aboutRoom_0 : decode cX7_aboutRoom 0 = .ok (.iload_n 2, 1) := by decide +kernel
theorem dX7_aboutRoom_1 : decode cX7_aboutRoom 1 = .ok (.tableswitch 109 0 5 #[39, 49, 59, 69, 86, 100], 39) := by decide +kernel
theorem dX7_aboutRoom_40 : decode cX7_aboutRoom 40 = .ok (.aload_n 0, 1) := by decide +kernel
theorem dX7_aboutRoom_41 : decode cX7_aboutRoom 41 = .ok (.getfield 12, 3) := by decide +kernel
theorem dX7_aboutRoom_44 : decode cX7_aboutRoom 44 = .ok (.getfield 136, 3) := by decide +kernel
theorem dX7_aboutRoom_47 : decode cX7_aboutRoom 47 = .ok (.iload_n 1, 1) := by decide +kernel
theorem dX7_aboutRoom_48 : decode cX7_aboutRoom 48 = .ok (.iaload, 1) := by decide +kernel
theorem dX7_aboutRoom_49 : decode cX7_aboutRoom 49 = .ok (.ireturn, 1) := by decide +kernel
theorem dX7_aboutRoom_50 : decode cX7_aboutRoom 50 = .ok (.aload_n 0, 1) := by decide +kernel
theorem dX7_aboutRoom_51 : decode cX7_aboutRoom 51 = .ok (.getfield 35, 3) := by decide +kernel
theorem dX7_aboutRoom_54 : decode cX7_aboutRoom 54 = .ok (.getfield 139, 3) := by decide +kernel
theorem dX7_aboutRoom_57 : decode cX7_aboutRoom 57 = .ok (.iload_n 1, 1) := by decide +kernel
theorem dX7_aboutRoom_58 : decode cX7_aboutRoom 58 = .ok (.iaload, 1) := by decide +kernel
theorem dX7_aboutRoom_59 : decode cX7_aboutRoom 59 = .ok (.ireturn, 1) := by decide +kernel
theorem dX7_aboutRoom_60 : decode cX7_aboutRoom 60 = .ok (.aload_n 0, 1) := by decide +kernel
theorem dX7_aboutRoom_61 : decode cX7_aboutRoom 61 = .ok (.getfield 35, 3) := by decide +kernel
theorem dX7_aboutRoom_64 : decode cX7_aboutRoom 64 = .ok (.getfield 142, 3) := by decide +kernel
theorem dX7_aboutRoom_67 : decode cX7_aboutRoom 67 = .ok (.iload_n 1, 1) := by decide +kernel
theorem dX7_aboutRoom_68 : decode cX7_aboutRoom 68 = .ok (.iaload, 1) := by decide +kernel
theorem dX7_aboutRoom_69 : decode cX7_aboutRoom 69 = .ok (.ireturn, 1) := by decide +kernel
theorem dX7_aboutRoom_70 : decode cX7_aboutRoom 70 = .ok (.aload_n 0, 1) := by decide +kernel
theorem dX7_aboutRoom_71 : decode cX7_aboutRoom 71 = .ok (.getfield 35, 3) := by decide +kernel
theorem dX7_aboutRoom_74 : decode cX7_aboutRoom 74 = .ok (.iload_n 1, 1) := by decide +kernel
theorem dX7_aboutRoom_75 : decode cX7_aboutRoom 75 = .ok (.invokevirtual 145, 3) := by decide +kernel
theorem dX7_aboutRoom_78 : decode cX7_aboutRoom 78 = .ok (.ifCond .eq 7, 3) := by decide +kernel
theorem dX7_aboutRoom_81 : decode cX7_aboutRoom 81 = .ok (.iconst 1, 1) := by decide +kernel
theorem dX7_aboutRoom_82 : decode cX7_aboutRoom 82 = .ok (.goto 4, 3) := by decide +kernel
theorem dX7_aboutRoom_85 : decode cX7_aboutRoom 85 = .ok (.iconst 0, 1) := by decide +kernel
theorem dX7_aboutRoom_86 : decode cX7_aboutRoom 86 = .ok (.ireturn, 1) := by decide +kernel
theorem dX7_aboutRoom_87 : decode cX7_aboutRoom 87 = .ok (.aload_n 0, 1) := by decide +kernel
theorem dX7_aboutRoom_88 : decode cX7_aboutRoom 88 = .ok (.iload_n 1, 1) := by decide +kernel
theorem dX7_aboutRoom_89 : decode cX7_aboutRoom 89 = .ok (.invokevirtual 149, 3) := by decide +kernel
theorem dX7_aboutRoom_92 : decode cX7_aboutRoom 92 = .ok (.ifCond .eq 7, 3) := by decide +kernel
theorem dX7_aboutRoom_95 : decode cX7_aboutRoom 95 = .ok (.iconst 1, 1) := by decide +kernel
theorem dX7_aboutRoom_96 : decode cX7_aboutRoom 96 = .ok (.goto 4, 3) := by decide +kernel
theorem dX7_aboutRoom_99 : decode cX7_aboutRoom 99 = .ok (.iconst 0, 1) := by decide +kernel
theorem dX7_aboutRoom_100 : decode cX7_aboutRoom 100 = .ok (.ireturn, 1) := by decide +kernel
theorem dX7_aboutRoom_101 : decode cX7_aboutRoom 101 = .ok (.aload_n 0, 1) := by decide +kernel
theorem dX7_aboutRoom_102 : decode cX7_aboutRoom 102 = .ok (.getfield 28, 3) := by decide +kernel
theorem dX7_aboutRoom_105 : decode cX7_aboutRoom 105 = .ok (.iload_n 1, 1) := by decide +kernel
theorem dX7_aboutRoom_106 : decode cX7_aboutRoom 106 = .ok (.invokevirtual 152, 3) := by decide +kernel
theorem dX7_aboutRoom_109 : decode cX7_aboutRoom 109 = .ok (.ireturn, 1) := by decide +kernel
theorem dX7_aboutRoom_110 : decode cX7_aboutRoom 110 = .ok (.aload_n 0, 1) := by decide +kernel
theorem dX7_aboutRoom_111 : decode cX7_aboutRoom 111 = .ok (.getfield 28, 3) := by decide +kernel
theorem dX7_aboutRoom_114 : decode cX7_aboutRoom 114 = .ok (.aload_n 0, 1) := by decide +kernel
theorem dX7_aboutRoom_115 : decode cX7_aboutRoom 115 = .ok (.getfield 28, 3) := by decide +kernel
theorem dX7_aboutRoom_118 : decode cX7_aboutRoom 118 = .ok (.iload_n 1, 1) := by decide +kernel
theorem dX7_aboutRoom_119 : decode cX7_aboutRoom 119 = .ok (.invokevirtual 152, 3) := by decide +kernel
theorem dX7_aboutRoom_122 : decode cX7_aboutRoom 122 = .ok (.invokevirtual 156, 3) := by decide +kernel
theorem dX7_aboutRoom_125 : decode cX7_aboutRoom 125 = .ok (.ireturn, 1) := by decide +kernel
set_option maxRecDepth 20000 in
theorem ggX7_aboutSensor_X7_isExcited : GoodIn wsX7_aboutSensor wsX7_isExcited := goodIn_r _ [13, 1, 4, 3, 14, 2, 15, 16, 17, 18, 19, 20, 21, 22, 23, 24, 25, 26, 27, 28, 29, 30, 31, 32, 33, 34, 35, 36, 45, 46, 47, 48, 49, 50, 51, 52, 53, 54, 55, 56, 57, 58, 59, 60, 61, 62, 63, 64, 65, 66, 67, 68, 69, 70] (by decide +kernel) (by decide +kernel)
set_option maxRecDepth 20000 in
theorem gX7_aboutSensor_X7_isExcited : GoodIn wsX7_aboutSensor (wsV RX7 180 RX7 yX7_isExcited wsX7_isExcited) := goodIn_app (goodIn_of _ (by decide +kernel)) ggX7_aboutSensor_X7_isExcited
set_option maxRecDepth 20000 in
theorem ggX7_aboutSensor_X6_votes : GoodIn wsX7_aboutSensor wsX6_votes := goodIn_r _ [41, 42, 43, 44, 53, 54, 55, 56, 57, 58, 59, 60] (by decide +kernel) (by decide +kernel)
set_option maxRecDepth 20000 in
theorem gX7_aboutSensor_X6_votes : GoodIn wsX7_aboutSensor (wsV RX7 183 RX6 yX6_votes wsX6_votes) := goodIn_app (goodIn_of _ (by decide +kernel)) ggX7_aboutSensor_X6_votes
theorem dX7_aboutSensor_0 : decode cX7_aboutSensor 0 = .ok (.iload_n 2, 1) := by decide +kernel
theorem dX7_aboutSensor_1 : decode cX7_aboutSensor 1 = .ok (.tableswitch 131 0 7 #[47, 57, 67, 77, 87, 97, 107, 117], 47) := by decide +kernel
theorem dX7_aboutSensor_48 : decode cX7_aboutSensor 48 = .ok (.aload_n 0, 1) := by decide +kernel
theorem dX7_aboutSensor_49 : decode cX7_aboutSensor 49 = .ok (.getfield 28, 3) := by decide +kernel
theorem dX7_aboutSensor_52 : decode cX7_aboutSensor 52 = .ok (.getfield 159, 3) := by decide +kernel
theorem dX7_aboutSensor_55 : decode cX7_aboutSensor 55 = .ok (.iload_n 1, 1) := by decide +kernel
theorem dX7_aboutSensor_56 : decode cX7_aboutSensor 56 = .ok (.iaload, 1) := by decide +kernel
theorem dX7_aboutSensor_57 : decode cX7_aboutSensor 57 = .ok (.ireturn, 1) := by decide +kernel
theorem dX7_aboutSensor_58 : decode cX7_aboutSensor 58 = .ok (.aload_n 0, 1) := by decide +kernel
theorem dX7_aboutSensor_59 : decode cX7_aboutSensor 59 = .ok (.getfield 28, 3) := by decide +kernel
theorem dX7_aboutSensor_62 : decode cX7_aboutSensor 62 = .ok (.getfield 162, 3) := by decide +kernel
theorem dX7_aboutSensor_65 : decode cX7_aboutSensor 65 = .ok (.iload_n 1, 1) := by decide +kernel
theorem dX7_aboutSensor_66 : decode cX7_aboutSensor 66 = .ok (.iaload, 1) := by decide +kernel
theorem dX7_aboutSensor_67 : decode cX7_aboutSensor 67 = .ok (.ireturn, 1) := by decide +kernel
theorem dX7_aboutSensor_68 : decode cX7_aboutSensor 68 = .ok (.aload_n 0, 1) := by decide +kernel
theorem dX7_aboutSensor_69 : decode cX7_aboutSensor 69 = .ok (.getfield 28, 3) := by decide +kernel
theorem dX7_aboutSensor_72 : decode cX7_aboutSensor 72 = .ok (.getfield 165, 3) := by decide +kernel
theorem dX7_aboutSensor_75 : decode cX7_aboutSensor 75 = .ok (.iload_n 1, 1) := by decide +kernel
theorem dX7_aboutSensor_76 : decode cX7_aboutSensor 76 = .ok (.iaload, 1) := by decide +kernel
theorem dX7_aboutSensor_77 : decode cX7_aboutSensor 77 = .ok (.ireturn, 1) := by decide +kernel
theorem dX7_aboutSensor_78 : decode cX7_aboutSensor 78 = .ok (.aload_n 0, 1) := by decide +kernel
theorem dX7_aboutSensor_79 : decode cX7_aboutSensor 79 = .ok (.getfield 28, 3) := by decide +kernel
theorem dX7_aboutSensor_82 : decode cX7_aboutSensor 82 = .ok (.getfield 168, 3) := by decide +kernel
theorem dX7_aboutSensor_85 : decode cX7_aboutSensor 85 = .ok (.iload_n 1, 1) := by decide +kernel
theorem dX7_aboutSensor_86 : decode cX7_aboutSensor 86 = .ok (.iaload, 1) := by decide +kernel
theorem dX7_aboutSensor_87 : decode cX7_aboutSensor 87 = .ok (.ireturn, 1) := by decide +kernel
theorem dX7_aboutSensor_88 : decode cX7_aboutSensor 88 = .ok (.aload_n 0, 1) := by decide +kernel
theorem dX7_aboutSensor_89 : decode cX7_aboutSensor 89 = .ok (.getfield 28, 3) := by decide +kernel
theorem dX7_aboutSensor_92 : decode cX7_aboutSensor 92 = .ok (.getfield 171, 3) := by decide +kernel
theorem dX7_aboutSensor_95 : decode cX7_aboutSensor 95 = .ok (.iload_n 1, 1) := by decide +kernel
theorem dX7_aboutSensor_96 : decode cX7_aboutSensor 96 = .ok (.iaload, 1) := by decide +kernel
theorem dX7_aboutSensor_97 : decode cX7_aboutSensor 97 = .ok (.ireturn, 1) := by decide +kernel
theorem dX7_aboutSensor_98 : decode cX7_aboutSensor 98 = .ok (.aload_n 0, 1) := by decide +kernel
theorem dX7_aboutSensor_99 : decode cX7_aboutSensor 99 = .ok (.getfield 28, 3) := by decide +kernel
theorem dX7_aboutSensor_102 : decode cX7_aboutSensor 102 = .ok (.getfield 174, 3) := by decide +kernel
theorem dX7_aboutSensor_105 : decode cX7_aboutSensor 105 = .ok (.iload_n 1, 1) := by decide +kernel
theorem dX7_aboutSensor_106 : decode cX7_aboutSensor 106 = .ok (.iaload, 1) := by decide +kernel
theorem dX7_aboutSensor_107 : decode cX7_aboutSensor 107 = .ok (.ireturn, 1) := by decide +kernel
theorem dX7_aboutSensor_108 : decode cX7_aboutSensor 108 = .ok (.aload_n 0, 1) := by decide +kernel
theorem dX7_aboutSensor_109 : decode cX7_aboutSensor 109 = .ok (.getfield 28, 3) := by decide +kernel
theorem dX7_aboutSensor_112 : decode cX7_aboutSensor 112 = .ok (.getfield 177, 3) := by decide +kernel
theorem dX7_aboutSensor_115 : decode cX7_aboutSensor 115 = .ok (.iload_n 1, 1) := by decide +kernel
theorem dX7_aboutSensor_116 : decode cX7_aboutSensor 116 = .ok (.iaload, 1) := by decide +kernel
theorem dX7_aboutSensor_117 : decode cX7_aboutSensor 117 = .ok (.ireturn, 1) := by decide +kernel
theorem dX7_aboutSensor_118 : decode cX7_aboutSensor 118 = .ok (.aload_n 0, 1) := by decide +kernel
theorem dX7_aboutSensor_119 : decode cX7_aboutSensor 119 = .ok (.iload_n 1, 1) := by decide +kernel
theorem dX7_aboutSensor_120 : decode cX7_aboutSensor 120 = .ok (.invokevirtual 180, 3) := by decide +kernel
theorem dX7_aboutSensor_123 : decode cX7_aboutSensor 123 = .ok (.ifCond .eq 7, 3) := by decide +kernel
theorem dX7_aboutSensor_126 : decode cX7_aboutSensor 126 = .ok (.iconst 1, 1) := by decide +kernel
theorem dX7_aboutSensor_127 : decode cX7_aboutSensor 127 = .ok (.goto 4, 3) := by decide +kernel
theorem dX7_aboutSensor_130 : decode cX7_aboutSensor 130 = .ok (.iconst 0, 1) := by decide +kernel
theorem dX7_aboutSensor_131 : decode cX7_aboutSensor 131 = .ok (.ireturn, 1) := by decide +kernel
theorem dX7_aboutSensor_132 : decode cX7_aboutSensor 132 = .ok (.aload_n 0, 1) := by decide +kernel
theorem dX7_aboutSensor_133 : decode cX7_aboutSensor 133 = .ok (.getfield 28, 3) := by decide +kernel
theorem dX7_aboutSensor_136 : decode cX7_aboutSensor 136 = .ok (.iload_n 1, 1) := by decide +kernel
theorem dX7_aboutSensor_137 : decode cX7_aboutSensor 137 = .ok (.invokevirtual 183, 3) := by decide +kernel
theorem dX7_aboutSensor_140 : decode cX7_aboutSensor 140 = .ok (.ifCond .eq 7, 3) := by decide +kernel
theorem dX7_aboutSensor_143 : decode cX7_aboutSensor 143 = .ok (.iconst 1, 1) := by decide +kernel
theorem dX7_aboutSensor_144 : decode cX7_aboutSensor 144 = .ok (.goto 4, 3) := by decide +kernel
theorem dX7_aboutSensor_147 : decode cX7_aboutSensor 147 = .ok (.iconst 0, 1) := by decide +kernel
theorem dX7_aboutSensor_148 : decode cX7_aboutSensor 148 = .ok (.ireturn, 1) := by decide +kernel
set_option maxRecDepth 20000 in
theorem ggX7_isExcited_X3_smokeIn : GoodIn wsX7_isExcited wsX3_smokeIn := goodIn_r _ [12, 13, 14, 50, 51, 52, 53] (by decide +kernel) (by decide +kernel)
set_option maxRecDepth 20000 in
theorem gX7_isExcited_X3_smokeIn : GoodIn wsX7_isExcited (wsV RX7 186 RX3 yX3_smokeIn wsX3_smokeIn) := goodIn_app (goodIn_of _ (by decide +kernel)) ggX7_isExcited_X3_smokeIn
set_option maxRecDepth 20000 in
theorem ggX7_isExcited_X2_draft : GoodIn wsX7_isExcited wsX2_draft := goodIn_r _ [19, 20, 21, 22, 44, 45, 46, 47, 48, 49] (by decide +kernel) (by decide +kernel)
set_option maxRecDepth 20000 in
theorem gX7_isExcited_X2_draft : GoodIn wsX7_isExcited (wsV RX7 128 RX2 yX2_draft wsX2_draft) := goodIn_app (goodIn_of _ (by decide +kernel)) ggX7_isExcited_X2_draft
set_option maxRecDepth 20000 in
theorem ggX7_isExcited_X2_strength : GoodIn wsX7_isExcited wsX2_strength := goodIn_r _ [26, 27, 44, 45, 46, 47, 48, 49] (by decide +kernel) (by decide +kernel)
set_option maxRecDepth 20000 in
theorem gX7_isExcited_X2_strength : GoodIn wsX7_isExcited (wsV RX7 121 RX2 yX2_strength wsX2_strength) := goodIn_app (goodIn_of _ (by decide +kernel)) ggX7_isExcited_X2_strength
theorem dX7_isExcited_0 : decode cX7_isExcited 0 = .ok (.aload_n 0, 1) := by decide +kernel
theorem dX7_isExcited_1 : decode cX7_isExcited 1 = .ok (.getfield 28, 3) := by decide +kernel
theorem dX7_isExcited_4 : decode cX7_isExcited 4 = .ok (.getfield 165, 3) := by decide +kernel
theorem dX7_isExcited_7 : decode cX7_isExcited 7 = .ok (.iload_n 1, 1) := by decide +kernel
theorem dX7_isExcited_8 : decode cX7_isExcited 8 = .ok (.iaload, 1) := by decide +kernel
theorem dX7_isExcited_9 : decode cX7_isExcited 9 = .ok (.istore_n 2, 1) := by decide +kernel
theorem dX7_isExcited_10 : decode cX7_isExcited 10 = .ok (.aload_n 0, 1) := by decide +kernel
theorem dX7_isExcited_11 : decode cX7_isExcited 11 = .ok (.getfield 28, 3) := by decide +kernel
theorem dX7_isExcited_14 : decode cX7_isExcited 14 = .ok (.getfield 162, 3) := by decide +kernel
theorem dX7_isExcited_17 : decode cX7_isExcited 17 = .ok (.iload_n 1, 1) := by decide +kernel
theorem dX7_isExcited_18 : decode cX7_isExcited 18 = .ok (.iaload, 1) := by decide +kernel
theorem dX7_isExcited_19 : decode cX7_isExcited 19 = .ok (.lookupswitch 78 #[(0, 25), (1, 51)], 25) := by decide +kernel
theorem dX7_isExcited_44 : decode cX7_isExcited 44 = .ok (.aload_n 0, 1) := by decide +kernel
theorem dX7_isExcited_45 : decode cX7_isExcited 45 = .ok (.getfield 12, 3) := by decide +kernel
theorem dX7_isExcited_48 : decode cX7_isExcited 48 = .ok (.aload_n 0, 1) := by decide +kernel
theorem dX7_isExcited_49 : decode cX7_isExcited 49 = .ok (.getfield 28, 3) := by decide +kernel
theorem dX7_isExcited_52 : decode cX7_isExcited 52 = .ok (.getfield 159, 3) := by decide +kernel
theorem dX7_isExcited_55 : decode cX7_isExcited 55 = .ok (.iload_n 1, 1) := by decide +kernel
theorem dX7_isExcited_56 : decode cX7_isExcited 56 = .ok (.iaload, 1) := by decide +kernel
theorem dX7_isExcited_57 : decode cX7_isExcited 57 = .ok (.invokevirtual 186, 3) := by decide +kernel
theorem dX7_isExcited_60 : decode cX7_isExcited 60 = .ok (.iload_n 2, 1) := by decide +kernel
theorem dX7_isExcited_61 : decode cX7_isExcited 61 = .ok (.if_icmp .lt 7, 3) := by decide +kernel
theorem dX7_isExcited_64 : decode cX7_isExcited 64 = .ok (.iconst 1, 1) := by decide +kernel
theorem dX7_isExcited_65 : decode cX7_isExcited 65 = .ok (.goto 4, 3) := by decide +kernel
theorem dX7_isExcited_68 : decode cX7_isExcited 68 = .ok (.iconst 0, 1) := by decide +kernel
theorem dX7_isExcited_69 : decode cX7_isExcited 69 = .ok (.ireturn, 1) := by decide +kernel
theorem dX7_isExcited_70 : decode cX7_isExcited 70 = .ok (.aload_n 0, 1) := by decide +kernel
theorem dX7_isExcited_71 : decode cX7_isExcited 71 = .ok (.getfield 21, 3) := by decide +kernel
theorem dX7_isExcited_74 : decode cX7_isExcited 74 = .ok (.invokevirtual 128, 3) := by decide +kernel
theorem dX7_isExcited_77 : decode cX7_isExcited 77 = .ok (.iload_n 2, 1) := by decide +kernel
theorem dX7_isExcited_78 : decode cX7_isExcited 78 = .ok (.if_icmp .ge 17, 3) := by decide +kernel
theorem dX7_isExcited_81 : decode cX7_isExcited 81 = .ok (.aload_n 0, 1) := by decide +kernel
theorem dX7_isExcited_82 : decode cX7_isExcited 82 = .ok (.getfield 21, 3) := by decide +kernel
theorem dX7_isExcited_85 : decode cX7_isExcited 85 = .ok (.invokevirtual 121, 3) := by decide +kernel
theorem dX7_isExcited_88 : decode cX7_isExcited 88 = .ok (.ifCond .le 7, 3) := by decide +kernel
theorem dX7_isExcited_91 : decode cX7_isExcited 91 = .ok (.iconst 1, 1) := by decide +kernel
theorem dX7_isExcited_92 : decode cX7_isExcited 92 = .ok (.goto 4, 3) := by decide +kernel
theorem dX7_isExcited_95 : decode cX7_isExcited 95 = .ok (.iconst 0, 1) := by decide +kernel
theorem dX7_isExcited_96 : decode cX7_isExcited 96 = .ok (.ireturn, 1) := by decide +kernel
theorem dX7_isExcited_97 : decode cX7_isExcited 97 = .ok (.aload_n 0, 1) := by decide +kernel
theorem dX7_isExcited_98 : decode cX7_isExcited 98 = .ok (.getfield 21, 3) := by decide +kernel
theorem dX7_isExcited_101 : decode cX7_isExcited 101 = .ok (.getfield 112, 3) := by decide +kernel
theorem dX7_isExcited_104 : decode cX7_isExcited 104 = .ok (.iload_n 2, 1) := by decide +kernel
theorem dX7_isExcited_105 : decode cX7_isExcited 105 = .ok (.if_icmp .lt 7, 3) := by decide +kernel
theorem dX7_isExcited_108 : decode cX7_isExcited 108 = .ok (.iconst 1, 1) := by decide +kernel
theorem dX7_isExcited_109 : decode cX7_isExcited 109 = .ok (.goto 4, 3) := by decide +kernel
theorem dX7_isExcited_112 : decode cX7_isExcited 112 = .ok (.iconst 0, 1) := by decide +kernel
theorem dX7_isExcited_113 : decode cX7_isExcited 113 = .ok (.ireturn, 1) := by decide +kernel
set_option maxRecDepth 20000 in
theorem ggX7_isAgreedOn_X6_votersIn : GoodIn wsX7_isAgreedOn wsX6_votersIn := goodIn_r _ [8, 9, 10, 11, 12, 13, 7, 14, 15, 16, 17, 42, 43, 44, 45, 46, 47, 48, 49] (by decide +kernel) (by decide +kernel)
set_option maxRecDepth 20000 in
theorem gX7_isAgreedOn_X6_votersIn : GoodIn wsX7_isAgreedOn (wsV RX7 152 RX6 yX6_votersIn wsX6_votersIn) := goodIn_app (goodIn_of _ (by decide +kernel)) ggX7_isAgreedOn_X6_votersIn
set_option maxRecDepth 20000 in
theorem ggX7_isAgreedOn_J6_bitCount_0f7a4 : GoodIn wsX7_isAgreedOn wsJ6_bitCount_0f7a4 := goodIn_r _ [21, 22, 23, 24] (by decide +kernel) (by decide +kernel)
set_option maxRecDepth 20000 in
theorem gX7_isAgreedOn_J6_bitCount_0f7a4 : GoodIn wsX7_isAgreedOn (va_wsS RX7 189 yJ6_bitCount_0f7a4 wsJ6_bitCount_0f7a4) := goodIn_app (goodIn_of _ (by decide +kernel)) ggX7_isAgreedOn_J6_bitCount_0f7a4
set_option maxRecDepth 20000 in
theorem ggX7_isAgreedOn_X6_weightOf : GoodIn wsX7_isAgreedOn wsX6_weightOf := goodIn_r _ [28, 9, 29, 42, 43, 44, 45, 46, 47, 48, 49] (by decide +kernel) (by decide +kernel)
set_option maxRecDepth 20000 in
theorem gX7_isAgreedOn_X6_weightOf : GoodIn wsX7_isAgreedOn (wsV RX7 156 RX6 yX6_weightOf wsX6_weightOf) := goodIn_app (goodIn_of _ (by decide +kernel)) ggX7_isAgreedOn_X6_weightOf
theorem dX7_isAgreedOn_0 : decode cX7_isAgreedOn 0 = .ok (.aload_n 0, 1) := by decide +kernel
theorem dX7_isAgreedOn_1 : decode cX7_isAgreedOn 1 = .ok (.getfield 28, 3) := by decide +kernel
theorem dX7_isAgreedOn_4 : decode cX7_isAgreedOn 4 = .ok (.iload_n 1, 1) := by decide +kernel
theorem dX7_isAgreedOn_5 : decode cX7_isAgreedOn 5 = .ok (.invokevirtual 152, 3) := by decide +kernel
theorem dX7_isAgreedOn_8 : decode cX7_isAgreedOn 8 = .ok (.istore_n 2, 1) := by decide +kernel
theorem dX7_isAgreedOn_9 : decode cX7_isAgreedOn 9 = .ok (.iload_n 2, 1) := by decide +kernel
theorem dX7_isAgreedOn_10 : decode cX7_isAgreedOn 10 = .ok (.invokestatic 189, 3) := by decide +kernel
theorem dX7_isAgreedOn_13 : decode cX7_isAgreedOn 13 = .ok (.iconst 2, 1) := by decide +kernel
theorem dX7_isAgreedOn_14 : decode cX7_isAgreedOn 14 = .ok (.if_icmp .lt 25, 3) := by decide +kernel
theorem dX7_isAgreedOn_17 : decode cX7_isAgreedOn 17 = .ok (.aload_n 0, 1) := by decide +kernel
theorem dX7_isAgreedOn_18 : decode cX7_isAgreedOn 18 = .ok (.getfield 28, 3) := by decide +kernel
theorem dX7_isAgreedOn_21 : decode cX7_isAgreedOn 21 = .ok (.iload_n 2, 1) := by decide +kernel
theorem dX7_isAgreedOn_22 : decode cX7_isAgreedOn 22 = .ok (.invokevirtual 156, 3) := by decide +kernel
theorem dX7_isAgreedOn_25 : decode cX7_isAgreedOn 25 = .ok (.aload_n 0, 1) := by decide +kernel
theorem dX7_isAgreedOn_26 : decode cX7_isAgreedOn 26 = .ok (.getfield 35, 3) := by decide +kernel
theorem dX7_isAgreedOn_29 : decode cX7_isAgreedOn 29 = .ok (.getfield 99, 3) := by decide +kernel
theorem dX7_isAgreedOn_32 : decode cX7_isAgreedOn 32 = .ok (.if_icmp .lt 7, 3) := by decide +kernel
theorem dX7_isAgreedOn_35 : decode cX7_isAgreedOn 35 = .ok (.iconst 1, 1) := by decide +kernel
theorem dX7_isAgreedOn_36 : decode cX7_isAgreedOn 36 = .ok (.goto 4, 3) := by decide +kernel
theorem dX7_isAgreedOn_39 : decode cX7_isAgreedOn 39 = .ok (.iconst 0, 1) := by decide +kernel
theorem dX7_isAgreedOn_40 : decode cX7_isAgreedOn 40 = .ok (.ireturn, 1) := by decide +kernel
set_option maxRecDepth 20000 in
theorem ggX7_firstRule_X7_ruleApplies : GoodIn wsX7_firstRule wsX7_ruleApplies := goodIn_r _ [7, 1, 8, 9, 10, 11, 12, 13, 14, 15, 16, 17, 18, 19, 20, 21, 22, 23, 24, 25, 26, 27, 28, 29, 30, 31, 32, 33, 34, 35, 36, 37, 38, 39, 40, 41, 42, 43, 44, 45, 46, 47, 48, 49, 50, 51, 52, 53, 54, 55, 56, 57, 58, 59, 60, 61, 62, 63, 64, 65, 66, 67, 68, 69, 70, 71] (by decide +kernel) (by decide +kernel)
set_option maxRecDepth 20000 in
theorem gX7_firstRule_X7_ruleApplies : GoodIn wsX7_firstRule (wsV RX7 194 RX7 yX7_ruleApplies wsX7_ruleApplies) := goodIn_app (goodIn_of _ (by decide +kernel)) ggX7_firstRule_X7_ruleApplies
theorem dX7_firstRule_0 : decode cX7_firstRule 0 = .ok (.iconst 0, 1) := by decide +kernel
theorem dX7_firstRule_1 : decode cX7_firstRule 1 = .ok (.istore_n 1, 1) := by decide +kernel
theorem dX7_firstRule_2 : decode cX7_firstRule 2 = .ok (.iload_n 1, 1) := by decide +kernel
theorem dX7_firstRule_3 : decode cX7_firstRule 3 = .ok (.aload_n 0, 1) := by decide +kernel
theorem dX7_firstRule_4 : decode cX7_firstRule 4 = .ok (.getfield 42, 3) := by decide +kernel
theorem dX7_firstRule_7 : decode cX7_firstRule 7 = .ok (.getfield 134, 3) := by decide +kernel
theorem dX7_firstRule_10 : decode cX7_firstRule 10 = .ok (.if_icmp .ge 19, 3) := by decide +kernel
theorem dX7_firstRule_13 : decode cX7_firstRule 13 = .ok (.aload_n 0, 1) := by decide +kernel
theorem dX7_firstRule_14 : decode cX7_firstRule 14 = .ok (.iload_n 1, 1) := by decide +kernel
theorem dX7_firstRule_15 : decode cX7_firstRule 15 = .ok (.invokevirtual 194, 3) := by decide +kernel
theorem dX7_firstRule_18 : decode cX7_firstRule 18 = .ok (.ifCond .eq 5, 3) := by decide +kernel
theorem dX7_firstRule_21 : decode cX7_firstRule 21 = .ok (.iload_n 1, 1) := by decide +kernel
theorem dX7_firstRule_22 : decode cX7_firstRule 22 = .ok (.ireturn, 1) := by decide +kernel
theorem dX7_firstRule_23 : decode cX7_firstRule 23 = .ok (.iinc 1 1, 3) := by decide +kernel
theorem dX7_firstRule_26 : decode cX7_firstRule 26 = .ok (.goto (-24), 3) := by decide +kernel
theorem dX7_firstRule_29 : decode cX7_firstRule 29 = .ok (.iconst (-1), 1) := by decide +kernel
theorem dX7_firstRule_30 : decode cX7_firstRule 30 = .ok (.ireturn, 1) := by decide +kernel
set_option maxRecDepth 20000 in
theorem ggX7_ruleApplies_X3_smokeIn : GoodIn wsX7_ruleApplies wsX3_smokeIn := goodIn_r _ [12, 13, 14, 52, 53, 54, 55] (by decide +kernel) (by decide +kernel)
set_option maxRecDepth 20000 in
theorem gX7_ruleApplies_X3_smokeIn : GoodIn wsX7_ruleApplies (wsV RX7 186 RX3 yX3_smokeIn wsX3_smokeIn) := goodIn_app (goodIn_of _ (by decide +kernel)) ggX7_ruleApplies_X3_smokeIn
set_option maxRecDepth 20000 in
theorem ggX7_ruleApplies_X2_draft : GoodIn wsX7_ruleApplies wsX2_draft := goodIn_r _ [19, 20, 21, 22, 56, 57, 58, 59, 60, 61] (by decide +kernel) (by decide +kernel)
set_option maxRecDepth 20000 in
theorem gX7_ruleApplies_X2_draft : GoodIn wsX7_ruleApplies (wsV RX7 128 RX2 yX2_draft wsX2_draft) := goodIn_app (goodIn_of _ (by decide +kernel)) ggX7_ruleApplies_X2_draft
set_option maxRecDepth 20000 in
theorem ggX7_ruleApplies_X3_isRoom : GoodIn wsX7_ruleApplies wsX3_isRoom := goodIn_r _ [26, 13, 52, 53, 54, 55] (by decide +kernel) (by decide +kernel)
set_option maxRecDepth 20000 in
theorem gX7_ruleApplies_X3_isRoom : GoodIn wsX7_ruleApplies (wsV RX7 202 RX3 yX3_isRoom wsX3_isRoom) := goodIn_app (goodIn_of _ (by decide +kernel)) ggX7_ruleApplies_X3_isRoom
set_option maxRecDepth 20000 in
theorem ggX7_ruleApplies_X0_soundsIn : GoodIn wsX7_ruleApplies wsX0_soundsIn := goodIn_r _ [31, 32, 33, 62, 63, 64, 65] (by decide +kernel) (by decide +kernel)
set_option maxRecDepth 20000 in
theorem gX7_ruleApplies_X0_soundsIn : GoodIn wsX7_ruleApplies (wsV RX7 145 RX0 yX0_soundsIn wsX0_soundsIn) := goodIn_app (goodIn_of _ (by decide +kernel)) ggX7_ruleApplies_X0_soundsIn
set_option maxRecDepth 20000 in
theorem ggX7_ruleApplies_X2_strength : GoodIn wsX7_ruleApplies wsX2_strength := goodIn_r _ [37, 38, 56, 57, 58, 59, 60, 61] (by decide +kernel) (by decide +kernel)
set_option maxRecDepth 20000 in
theorem gX7_ruleApplies_X2_strength : GoodIn wsX7_ruleApplies (wsV RX7 121 RX2 yX2_strength wsX2_strength) := goodIn_app (goodIn_of _ (by decide +kernel)) ggX7_ruleApplies_X2_strength
theorem dX7_ruleApplies_0 : decode cX7_ruleApplies 0 = .ok (.aload_n 0, 1) := by decide +kernel
theorem dX7_ruleApplies_1 : decode cX7_ruleApplies 1 = .ok (.getfield 42, 3) := by decide +kernel
theorem dX7_ruleApplies_4 : decode cX7_ruleApplies 4 = .ok (.getfield 197, 3) := by decide +kernel
theorem dX7_ruleApplies_7 : decode cX7_ruleApplies 7 = .ok (.iload_n 1, 1) := by decide +kernel
theorem dX7_ruleApplies_8 : decode cX7_ruleApplies 8 = .ok (.iaload, 1) := by decide +kernel
theorem dX7_ruleApplies_9 : decode cX7_ruleApplies 9 = .ok (.istore_n 2, 1) := by decide +kernel
theorem dX7_ruleApplies_10 : decode cX7_ruleApplies 10 = .ok (.aload_n 0, 1) := by decide +kernel
theorem dX7_ruleApplies_11 : decode cX7_ruleApplies 11 = .ok (.getfield 42, 3) := by decide +kernel
theorem dX7_ruleApplies_14 : decode cX7_ruleApplies 14 = .ok (.getfield 198, 3) := by decide +kernel
theorem dX7_ruleApplies_17 : decode cX7_ruleApplies 17 = .ok (.iload_n 1, 1) := by decide +kernel
theorem dX7_ruleApplies_18 : decode cX7_ruleApplies 18 = .ok (.iaload, 1) := by decide +kernel
theorem dX7_ruleApplies_19 : decode cX7_ruleApplies 19 = .ok (.istore_n 3, 1) := by decide +kernel
theorem dX7_ruleApplies_20 : decode cX7_ruleApplies 20 = .ok (.aload_n 0, 1) := by decide +kernel
theorem dX7_ruleApplies_21 : decode cX7_ruleApplies 21 = .ok (.getfield 42, 3) := by decide +kernel
theorem dX7_ruleApplies_24 : decode cX7_ruleApplies 24 = .ok (.getfield 201, 3) := by decide +kernel
theorem dX7_ruleApplies_27 : decode cX7_ruleApplies 27 = .ok (.iload_n 1, 1) := by decide +kernel
theorem dX7_ruleApplies_28 : decode cX7_ruleApplies 28 = .ok (.iaload, 1) := by decide +kernel
theorem dX7_ruleApplies_29 : decode cX7_ruleApplies 29 = .ok (.tableswitch 90 0 2 #[27, 45, 62], 27) := by decide +kernel
theorem dX7_ruleApplies_56 : decode cX7_ruleApplies 56 = .ok (.aload_n 0, 1) := by decide +kernel
theorem dX7_ruleApplies_57 : decode cX7_ruleApplies 57 = .ok (.getfield 12, 3) := by decide +kernel
theorem dX7_ruleApplies_60 : decode cX7_ruleApplies 60 = .ok (.iload_n 2, 1) := by decide +kernel
theorem dX7_ruleApplies_61 : decode cX7_ruleApplies 61 = .ok (.invokevirtual 186, 3) := by decide +kernel
theorem dX7_ruleApplies_64 : decode cX7_ruleApplies 64 = .ok (.iload_n 3, 1) := by decide +kernel
theorem dX7_ruleApplies_65 : decode cX7_ruleApplies 65 = .ok (.if_icmp .lt 7, 3) := by decide +kernel
theorem dX7_ruleApplies_68 : decode cX7_ruleApplies 68 = .ok (.iconst 1, 1) := by decide +kernel
theorem dX7_ruleApplies_69 : decode cX7_ruleApplies 69 = .ok (.goto 4, 3) := by decide +kernel
theorem dX7_ruleApplies_72 : decode cX7_ruleApplies 72 = .ok (.iconst 0, 1) := by decide +kernel
theorem dX7_ruleApplies_73 : decode cX7_ruleApplies 73 = .ok (.ireturn, 1) := by decide +kernel
theorem dX7_ruleApplies_74 : decode cX7_ruleApplies 74 = .ok (.aload_n 0, 1) := by decide +kernel
theorem dX7_ruleApplies_75 : decode cX7_ruleApplies 75 = .ok (.getfield 21, 3) := by decide +kernel
theorem dX7_ruleApplies_78 : decode cX7_ruleApplies 78 = .ok (.invokevirtual 128, 3) := by decide +kernel
theorem dX7_ruleApplies_81 : decode cX7_ruleApplies 81 = .ok (.iload_n 3, 1) := by decide +kernel
theorem dX7_ruleApplies_82 : decode cX7_ruleApplies 82 = .ok (.if_icmp .ge 7, 3) := by decide +kernel
theorem dX7_ruleApplies_85 : decode cX7_ruleApplies 85 = .ok (.iconst 1, 1) := by decide +kernel
theorem dX7_ruleApplies_86 : decode cX7_ruleApplies 86 = .ok (.goto 4, 3) := by decide +kernel
theorem dX7_ruleApplies_89 : decode cX7_ruleApplies 89 = .ok (.iconst 0, 1) := by decide +kernel
theorem dX7_ruleApplies_90 : decode cX7_ruleApplies 90 = .ok (.ireturn, 1) := by decide +kernel
theorem dX7_ruleApplies_91 : decode cX7_ruleApplies 91 = .ok (.aload_n 0, 1) := by decide +kernel
theorem dX7_ruleApplies_92 : decode cX7_ruleApplies 92 = .ok (.getfield 12, 3) := by decide +kernel
theorem dX7_ruleApplies_95 : decode cX7_ruleApplies 95 = .ok (.iload_n 2, 1) := by decide +kernel
theorem dX7_ruleApplies_96 : decode cX7_ruleApplies 96 = .ok (.invokevirtual 202, 3) := by decide +kernel
theorem dX7_ruleApplies_99 : decode cX7_ruleApplies 99 = .ok (.ifCond .eq 18, 3) := by decide +kernel
theorem dX7_ruleApplies_102 : decode cX7_ruleApplies 102 = .ok (.aload_n 0, 1) := by decide +kernel
theorem dX7_ruleApplies_103 : decode cX7_ruleApplies 103 = .ok (.getfield 35, 3) := by decide +kernel
theorem dX7_ruleApplies_106 : decode cX7_ruleApplies 106 = .ok (.iload_n 2, 1) := by decide +kernel
theorem dX7_ruleApplies_107 : decode cX7_ruleApplies 107 = .ok (.invokevirtual 145, 3) := by decide +kernel
theorem dX7_ruleApplies_110 : decode cX7_ruleApplies 110 = .ok (.ifCond .eq 7, 3) := by decide +kernel
theorem dX7_ruleApplies_113 : decode cX7_ruleApplies 113 = .ok (.iconst 1, 1) := by decide +kernel
theorem dX7_ruleApplies_114 : decode cX7_ruleApplies 114 = .ok (.goto 4, 3) := by decide +kernel
theorem dX7_ruleApplies_117 : decode cX7_ruleApplies 117 = .ok (.iconst 0, 1) := by decide +kernel
theorem dX7_ruleApplies_118 : decode cX7_ruleApplies 118 = .ok (.ireturn, 1) := by decide +kernel
theorem dX7_ruleApplies_119 : decode cX7_ruleApplies 119 = .ok (.aload_n 0, 1) := by decide +kernel
theorem dX7_ruleApplies_120 : decode cX7_ruleApplies 120 = .ok (.getfield 21, 3) := by decide +kernel
theorem dX7_ruleApplies_123 : decode cX7_ruleApplies 123 = .ok (.invokevirtual 121, 3) := by decide +kernel
theorem dX7_ruleApplies_126 : decode cX7_ruleApplies 126 = .ok (.iload_n 3, 1) := by decide +kernel
theorem dX7_ruleApplies_127 : decode cX7_ruleApplies 127 = .ok (.if_icmp .gt 7, 3) := by decide +kernel
theorem dX7_ruleApplies_130 : decode cX7_ruleApplies 130 = .ok (.iconst 1, 1) := by decide +kernel
theorem dX7_ruleApplies_131 : decode cX7_ruleApplies 131 = .ok (.goto 4, 3) := by decide +kernel
theorem dX7_ruleApplies_134 : decode cX7_ruleApplies 134 = .ok (.iconst 0, 1) := by decide +kernel
theorem dX7_ruleApplies_135 : decode cX7_ruleApplies 135 = .ok (.ireturn, 1) := by decide +kernel
set_option maxRecDepth 20000 in
theorem ggX7_allowsEvent_X3_isRoom : GoodIn wsX7_allowsEvent wsX3_isRoom := goodIn_r _ [7, 8, 30, 31, 32, 33] (by decide +kernel) (by decide +kernel)
set_option maxRecDepth 20000 in
theorem gX7_allowsEvent_X3_isRoom : GoodIn wsX7_allowsEvent (wsV RX7 202 RX3 yX3_isRoom wsX3_isRoom) := goodIn_app (goodIn_of _ (by decide +kernel)) ggX7_allowsEvent_X3_isRoom
set_option maxRecDepth 20000 in
theorem ggX7_allowsEvent_X3_isPlace : GoodIn wsX7_allowsEvent wsX3_isPlace := goodIn_r _ [12, 8, 30, 31, 32, 33] (by decide +kernel) (by decide +kernel)
set_option maxRecDepth 20000 in
theorem gX7_allowsEvent_X3_isPlace : GoodIn wsX7_allowsEvent (wsV RX7 205 RX3 yX3_isPlace wsX3_isPlace) := goodIn_app (goodIn_of _ (by decide +kernel)) ggX7_allowsEvent_X3_isPlace
set_option maxRecDepth 20000 in
theorem ggX7_allowsEvent_X8_isWithin : GoodIn wsX7_allowsEvent wsX8_isWithin := goodIn_r _ [15] (by decide +kernel) (by decide +kernel)
set_option maxRecDepth 20000 in
theorem gX7_allowsEvent_X8_isWithin_n208 : GoodIn wsX7_allowsEvent (wsX8_isWithin) := ggX7_allowsEvent_X8_isWithin
set_option maxRecDepth 20000 in
theorem ggX7_allowsEvent_X6_has : GoodIn wsX7_allowsEvent wsX6_has := goodIn_r _ [20, 21, 34, 35, 36, 37, 38, 39, 40, 41] (by decide +kernel) (by decide +kernel)
set_option maxRecDepth 20000 in
theorem gX7_allowsEvent_X6_has : GoodIn wsX7_allowsEvent (wsV RX7 212 RX6 yX6_has wsX6_has) := goodIn_app (goodIn_of _ (by decide +kernel)) ggX7_allowsEvent_X6_has
theorem dX7_allowsEvent_0 : decode cX7_allowsEvent 0 = .ok (.iload_n 1, 1) := by decide +kernel
theorem dX7_allowsEvent_1 : decode cX7_allowsEvent 1 = .ok (.tableswitch 149 0 4 #[35, 68, 89, 109, 135], 35) := by decide +kernel
theorem dX7_allowsEvent_36 : decode cX7_allowsEvent 36 = .ok (.aload_n 0, 1) := by decide +kernel
theorem dX7_allowsEvent_37 : decode cX7_allowsEvent 37 = .ok (.getfield 12, 3) := by decide +kernel
theorem dX7_allowsEvent_40 : decode cX7_allowsEvent 40 = .ok (.iload_n 2, 1) := by decide +kernel
theorem dX7_allowsEvent_41 : decode cX7_allowsEvent 41 = .ok (.invokevirtual 202, 3) := by decide +kernel
theorem dX7_allowsEvent_44 : decode cX7_allowsEvent 44 = .ok (.ifCond .eq 23, 3) := by decide +kernel
theorem dX7_allowsEvent_47 : decode cX7_allowsEvent 47 = .ok (.aload_n 0, 1) := by decide +kernel
theorem dX7_allowsEvent_48 : decode cX7_allowsEvent 48 = .ok (.getfield 12, 3) := by decide +kernel
theorem dX7_allowsEvent_51 : decode cX7_allowsEvent 51 = .ok (.iload_n 3, 1) := by decide +kernel
theorem dX7_allowsEvent_52 : decode cX7_allowsEvent 52 = .ok (.invokevirtual 205, 3) := by decide +kernel
theorem dX7_allowsEvent_55 : decode cX7_allowsEvent 55 = .ok (.ifCond .eq 12, 3) := by decide +kernel
theorem dX7_allowsEvent_58 : decode cX7_allowsEvent 58 = .ok (.iload_n 2, 1) := by decide +kernel
theorem dX7_allowsEvent_59 : decode cX7_allowsEvent 59 = .ok (.iload_n 3, 1) := by decide +kernel
theorem dX7_allowsEvent_60 : decode cX7_allowsEvent 60 = .ok (.if_icmp .eq 7, 3) := by decide +kernel
theorem dX7_allowsEvent_63 : decode cX7_allowsEvent 63 = .ok (.iconst 1, 1) := by decide +kernel
theorem dX7_allowsEvent_64 : decode cX7_allowsEvent 64 = .ok (.goto 4, 3) := by decide +kernel
theorem dX7_allowsEvent_67 : decode cX7_allowsEvent 67 = .ok (.iconst 0, 1) := by decide +kernel
theorem dX7_allowsEvent_68 : decode cX7_allowsEvent 68 = .ok (.ireturn, 1) := by decide +kernel
theorem dX7_allowsEvent_69 : decode cX7_allowsEvent 69 = .ok (.iload_n 2, 1) := by decide +kernel
theorem dX7_allowsEvent_70 : decode cX7_allowsEvent 70 = .ok (.iconst 1, 1) := by decide +kernel
theorem dX7_allowsEvent_71 : decode cX7_allowsEvent 71 = .ok (.sipush 200, 3) := by decide +kernel
theorem dX7_allowsEvent_74 : decode cX7_allowsEvent 74 = .ok (.invokestatic 208, 3) := by decide +kernel
theorem dX7_allowsEvent_77 : decode cX7_allowsEvent 77 = .ok (.ifCond .eq 11, 3) := by decide +kernel
theorem dX7_allowsEvent_80 : decode cX7_allowsEvent 80 = .ok (.iload_n 3, 1) := by decide +kernel
theorem dX7_allowsEvent_81 : decode cX7_allowsEvent 81 = .ok (.ifCond .ne 7, 3) := by decide +kernel
theorem dX7_allowsEvent_84 : decode cX7_allowsEvent 84 = .ok (.iconst 1, 1) := by decide +kernel
theorem dX7_allowsEvent_85 : decode cX7_allowsEvent 85 = .ok (.goto 4, 3) := by decide +kernel
theorem dX7_allowsEvent_88 : decode cX7_allowsEvent 88 = .ok (.iconst 0, 1) := by decide +kernel
theorem dX7_allowsEvent_89 : decode cX7_allowsEvent 89 = .ok (.ireturn, 1) := by decide +kernel
theorem dX7_allowsEvent_90 : decode cX7_allowsEvent 90 = .ok (.iload_n 2, 1) := by decide +kernel
theorem dX7_allowsEvent_91 : decode cX7_allowsEvent 91 = .ok (.iconst 0, 1) := by decide +kernel
theorem dX7_allowsEvent_92 : decode cX7_allowsEvent 92 = .ok (.bipush 60, 2) := by decide +kernel
theorem dX7_allowsEvent_94 : decode cX7_allowsEvent 94 = .ok (.invokestatic 208, 3) := by decide +kernel
theorem dX7_allowsEvent_97 : decode cX7_allowsEvent 97 = .ok (.ifCond .eq 11, 3) := by decide +kernel
theorem dX7_allowsEvent_100 : decode cX7_allowsEvent 100 = .ok (.iload_n 3, 1) := by decide +kernel
theorem dX7_allowsEvent_101 : decode cX7_allowsEvent 101 = .ok (.ifCond .ne 7, 3) := by decide +kernel
theorem dX7_allowsEvent_104 : decode cX7_allowsEvent 104 = .ok (.iconst 1, 1) := by decide +kernel
theorem dX7_allowsEvent_105 : decode cX7_allowsEvent 105 = .ok (.goto 4, 3) := by decide +kernel
theorem dX7_allowsEvent_108 : decode cX7_allowsEvent 108 = .ok (.iconst 0, 1) := by decide +kernel
theorem dX7_allowsEvent_109 : decode cX7_allowsEvent 109 = .ok (.ireturn, 1) := by decide +kernel
theorem dX7_allowsEvent_110 : decode cX7_allowsEvent 110 = .ok (.aload_n 0, 1) := by decide +kernel
theorem dX7_allowsEvent_111 : decode cX7_allowsEvent 111 = .ok (.getfield 28, 3) := by decide +kernel
theorem dX7_allowsEvent_114 : decode cX7_allowsEvent 114 = .ok (.iload_n 2, 1) := by decide +kernel
theorem dX7_allowsEvent_115 : decode cX7_allowsEvent 115 = .ok (.invokevirtual 212, 3) := by decide +kernel
theorem dX7_allowsEvent_118 : decode cX7_allowsEvent 118 = .ok (.ifCond .eq 16, 3) := by decide +kernel
theorem dX7_allowsEvent_121 : decode cX7_allowsEvent 121 = .ok (.iload_n 3, 1) := by decide +kernel
theorem dX7_allowsEvent_122 : decode cX7_allowsEvent 122 = .ok (.iconst 0, 1) := by decide +kernel
theorem dX7_allowsEvent_123 : decode cX7_allowsEvent 123 = .ok (.iconst 2, 1) := by decide +kernel
theorem dX7_allowsEvent_124 : decode cX7_allowsEvent 124 = .ok (.invokestatic 208, 3) := by decide +kernel
theorem dX7_allowsEvent_127 : decode cX7_allowsEvent 127 = .ok (.ifCond .eq 7, 3) := by decide +kernel
theorem dX7_allowsEvent_130 : decode cX7_allowsEvent 130 = .ok (.iconst 1, 1) := by decide +kernel
theorem dX7_allowsEvent_131 : decode cX7_allowsEvent 131 = .ok (.goto 4, 3) := by decide +kernel
theorem dX7_allowsEvent_134 : decode cX7_allowsEvent 134 = .ok (.iconst 0, 1) := by decide +kernel
theorem dX7_allowsEvent_135 : decode cX7_allowsEvent 135 = .ok (.ireturn, 1) := by decide +kernel
theorem dX7_allowsEvent_136 : decode cX7_allowsEvent 136 = .ok (.iload_n 2, 1) := by decide +kernel
theorem dX7_allowsEvent_137 : decode cX7_allowsEvent 137 = .ok (.ifCond .ne 11, 3) := by decide +kernel
theorem dX7_allowsEvent_140 : decode cX7_allowsEvent 140 = .ok (.iload_n 3, 1) := by decide +kernel
theorem dX7_allowsEvent_141 : decode cX7_allowsEvent 141 = .ok (.ifCond .ne 7, 3) := by decide +kernel
theorem dX7_allowsEvent_144 : decode cX7_allowsEvent 144 = .ok (.iconst 1, 1) := by decide +kernel
theorem dX7_allowsEvent_145 : decode cX7_allowsEvent 145 = .ok (.goto 4, 3) := by decide +kernel
theorem dX7_allowsEvent_148 : decode cX7_allowsEvent 148 = .ok (.iconst 0, 1) := by decide +kernel
theorem dX7_allowsEvent_149 : decode cX7_allowsEvent 149 = .ok (.ireturn, 1) := by decide +kernel
theorem dX7_allowsEvent_150 : decode cX7_allowsEvent 150 = .ok (.iconst 0, 1) := by decide +kernel
theorem dX7_allowsEvent_151 : decode cX7_allowsEvent 151 = .ok (.ireturn, 1) := by decide +kernel
set_option maxRecDepth 20000 in
theorem ggX7_letMinutePass_X7_takeEvents : GoodIn wsX7_letMinutePass wsX7_takeEvents := goodIn_r _ [11, 12, 1, 3, 13, 14, 15, 16, 17, 18, 19, 20, 21, 22, 10, 23, 24, 25, 26, 4, 2, 27, 5, 28, 29, 30, 31, 32, 33, 34, 35, 36, 37, 38, 39, 40, 41, 42, 43, 44, 45, 46, 47, 48, 49, 50, 51, 52, 53, 54, 55, 56, 57, 58, 59, 60, 61, 62, 63, 64, 65, 207, 208, 209, 210, 211, 212, 213, 214, 223, 224, 225, 226, 227, 228, 229, 230, 231, 232, 233, 215, 216, 217, 218, 219, 220, 221, 222, 234, 235, 236, 237] (by decide +kernel) (by decide +kernel)
set_option maxRecDepth 20000 in
theorem gX7_letMinutePass_X7_takeEvents : GoodIn wsX7_letMinutePass (wsV RX7 215 RX7 yX7_takeEvents wsX7_takeEvents) := goodIn_app (goodIn_of _ (by decide +kernel)) ggX7_letMinutePass_X7_takeEvents
set_option maxRecDepth 20000 in
theorem ggX7_letMinutePass_X2_strength : GoodIn wsX7_letMinutePass wsX2_strength := goodIn_r _ [69, 44, 228, 229, 230, 231, 232, 233] (by decide +kernel) (by decide +kernel)
set_option maxRecDepth 20000 in
theorem gX7_letMinutePass_X2_strength : GoodIn wsX7_letMinutePass (wsV RX7 121 RX2 yX2_strength wsX2_strength) := goodIn_app (goodIn_of _ (by decide +kernel)) ggX7_letMinutePass_X2_strength
set_option maxRecDepth 20000 in
theorem ggX7_letMinutePass_X2_burn : GoodIn wsX7_letMinutePass wsX2_burn := goodIn_r _ [73, 44, 74, 75, 76, 47, 77, 78, 45, 46, 48, 228, 229, 230, 231, 232, 233] (by decide +kernel) (by decide +kernel)
set_option maxRecDepth 20000 in
theorem gX7_letMinutePass_X2_burn : GoodIn wsX7_letMinutePass (wsV RX7 218 RX2 yX2_burn wsX2_burn) := goodIn_app (goodIn_of _ (by decide +kernel)) ggX7_letMinutePass_X2_burn
set_option maxRecDepth 20000 in
theorem ggX7_letMinutePass_X7_letSmokeRise : GoodIn wsX7_letMinutePass wsX7_letSmokeRise := goodIn_r _ [82, 2, 83, 46, 47, 48, 4, 84, 3, 85, 86, 87, 42, 88, 78, 74, 89, 207, 208, 209, 210, 211, 212, 213, 214, 234, 235, 236, 237, 228, 229, 230, 231, 232, 233] (by decide +kernel) (by decide +kernel)
set_option maxRecDepth 20000 in
theorem gX7_letMinutePass_X7_letSmokeRise : GoodIn wsX7_letMinutePass (wsV RX7 221 RX7 yX7_letSmokeRise wsX7_letSmokeRise) := goodIn_app (goodIn_of _ (by decide +kernel)) ggX7_letMinutePass_X7_letSmokeRise
set_option maxRecDepth 20000 in
theorem ggX7_letMinutePass_X3_spread : GoodIn wsX7_letMinutePass wsX3_spread := goodIn_r _ [93, 94, 95, 96, 97, 98, 46, 47, 48, 99, 100, 101, 33, 102, 103, 104, 105, 106, 35, 36, 37, 38, 234, 235, 236, 237] (by decide +kernel) (by decide +kernel)
set_option maxRecDepth 20000 in
theorem gX7_letMinutePass_X3_spread : GoodIn wsX7_letMinutePass (wsV RX7 224 RX3 yX3_spread wsX3_spread) := goodIn_app (goodIn_of _ (by decide +kernel)) ggX7_letMinutePass_X3_spread
set_option maxRecDepth 20000 in
theorem ggX7_letMinutePass_X7_isExcited : GoodIn wsX7_letMinutePass wsX7_isExcited := goodIn_r _ [110, 5, 111, 112, 4, 113, 2, 114, 115, 116, 117, 33, 118, 94, 96, 85, 86, 87, 42, 88, 78, 74, 89, 66, 67, 68, 69, 44, 207, 208, 209, 210, 211, 212, 213, 214, 215, 216, 217, 218, 219, 220, 221, 222, 228, 229, 230, 231, 232, 233, 234, 235, 236, 237] (by decide +kernel) (by decide +kernel)
set_option maxRecDepth 20000 in
theorem gX7_letMinutePass_X7_isExcited : GoodIn wsX7_letMinutePass (wsV RX7 180 RX7 yX7_isExcited wsX7_isExcited) := goodIn_app (goodIn_of _ (by decide +kernel)) ggX7_letMinutePass_X7_isExcited
set_option maxRecDepth 20000 in
theorem ggX7_letMinutePass_X6_countMinute : GoodIn wsX7_letMinutePass wsX6_countMinute := goodIn_r _ [122, 123, 124, 46, 47, 48, 215, 216, 217, 218, 219, 220, 221, 222] (by decide +kernel) (by decide +kernel)
set_option maxRecDepth 20000 in
theorem gX7_letMinutePass_X6_countMinute : GoodIn wsX7_letMinutePass (wsV RX7 227 RX6 yX6_countMinute wsX6_countMinute) := goodIn_app (goodIn_of _ (by decide +kernel)) ggX7_letMinutePass_X6_countMinute
set_option maxRecDepth 20000 in
theorem ggX7_letMinutePass_X7_countAlarms : GoodIn wsX7_letMinutePass wsX7_countAlarms := goodIn_r _ [128, 4, 129, 130, 3, 131, 132, 133, 134, 135, 136, 137, 138, 139, 140, 10, 141, 5, 142, 143, 144, 145, 52, 146, 54, 147, 148, 149, 150, 151, 152, 123, 153, 154, 155, 156, 157, 158, 159, 160, 161, 162, 163, 164, 165, 166, 167, 168, 169, 170, 76, 47, 77, 171, 207, 208, 209, 210, 211, 212, 213, 214, 234, 235, 236, 237, 238, 239, 240, 241, 215, 216, 217, 218, 219, 220, 221, 222] (by decide +kernel) (by decide +kernel)
set_option maxRecDepth 20000 in
theorem gX7_letMinutePass_X7_countAlarms : GoodIn wsX7_letMinutePass (wsV RX7 231 RX7 yX7_countAlarms wsX7_countAlarms) := goodIn_app (goodIn_of _ (by decide +kernel)) ggX7_letMinutePass_X7_countAlarms
set_option maxRecDepth 20000 in
theorem ggX7_letMinutePass_X7_moveByRules : GoodIn wsX7_letMinutePass wsX7_moveByRules := goodIn_r _ [175, 176, 2, 177, 178, 3, 179, 180, 181, 10, 182, 183, 184, 185, 186, 187, 188, 189, 190, 4, 130, 115, 116, 117, 33, 118, 94, 96, 85, 86, 87, 42, 88, 78, 74, 89, 191, 192, 193, 194, 131, 132, 133, 134, 135, 136, 137, 66, 67, 68, 69, 44, 195, 196, 197, 198, 199, 200, 201, 202, 203, 204, 205, 206, 207, 208, 209, 210, 211, 212, 213, 214, 242, 243, 244, 245, 246, 228, 229, 230, 231, 232, 233, 234, 235, 236, 237, 238, 239, 240, 241] (by decide +kernel) (by decide +kernel)
set_option maxRecDepth 20000 in
theorem gX7_letMinutePass_X7_moveByRules : GoodIn wsX7_letMinutePass (wsV RX7 234 RX7 yX7_moveByRules wsX7_moveByRules) := goodIn_app (goodIn_of _ (by decide +kernel)) ggX7_letMinutePass_X7_moveByRules
theorem dX7_letMinutePass_0 : decode cX7_letMinutePass 0 = .ok (.aload_n 0, 1) := by decide +kernel
theorem dX7_letMinutePass_1 : decode cX7_letMinutePass 1 = .ok (.dup, 1) := by decide +kernel
theorem dX7_letMinutePass_2 : decode cX7_letMinutePass 2 = .ok (.getfield 57, 3) := by decide +kernel
theorem dX7_letMinutePass_5 : decode cX7_letMinutePass 5 = .ok (.iconst 1, 1) := by decide +kernel
theorem dX7_letMinutePass_6 : decode cX7_letMinutePass 6 = .ok (.iadd, 1) := by decide +kernel
theorem dX7_letMinutePass_7 : decode cX7_letMinutePass 7 = .ok (.putfield 57, 3) := by decide +kernel
theorem dX7_letMinutePass_10 : decode cX7_letMinutePass 10 = .ok (.aload_n 0, 1) := by decide +kernel
theorem dX7_letMinutePass_11 : decode cX7_letMinutePass 11 = .ok (.invokevirtual 215, 3) := by decide +kernel
theorem dX7_letMinutePass_14 : decode cX7_letMinutePass 14 = .ok (.aload_n 0, 1) := by decide +kernel
theorem dX7_letMinutePass_15 : decode cX7_letMinutePass 15 = .ok (.getfield 21, 3) := by decide +kernel
theorem dX7_letMinutePass_18 : decode cX7_letMinutePass 18 = .ok (.invokevirtual 121, 3) := by decide +kernel
theorem dX7_letMinutePass_21 : decode cX7_letMinutePass 21 = .ok (.istore_n 1, 1) := by decide +kernel
theorem dX7_letMinutePass_22 : decode cX7_letMinutePass 22 = .ok (.aload_n 0, 1) := by decide +kernel
theorem dX7_letMinutePass_23 : decode cX7_letMinutePass 23 = .ok (.getfield 21, 3) := by decide +kernel
theorem dX7_letMinutePass_26 : decode cX7_letMinutePass 26 = .ok (.iload_n 1, 1) := by decide +kernel
theorem dX7_letMinutePass_27 : decode cX7_letMinutePass 27 = .ok (.invokevirtual 218, 3) := by decide +kernel
theorem dX7_letMinutePass_30 : decode cX7_letMinutePass 30 = .ok (.aload_n 0, 1) := by decide +kernel
theorem dX7_letMinutePass_31 : decode cX7_letMinutePass 31 = .ok (.iload_n 1, 1) := by decide +kernel
theorem dX7_letMinutePass_32 : decode cX7_letMinutePass 32 = .ok (.invokevirtual 221, 3) := by decide +kernel
theorem dX7_letMinutePass_35 : decode cX7_letMinutePass 35 = .ok (.aload_n 0, 1) := by decide +kernel
theorem dX7_letMinutePass_36 : decode cX7_letMinutePass 36 = .ok (.getfield 53, 3) := by decide +kernel
theorem dX7_letMinutePass_39 : decode cX7_letMinutePass 39 = .ok (.iconst 4, 1) := by decide +kernel
theorem dX7_letMinutePass_40 : decode cX7_letMinutePass 40 = .ok (.dup2, 1) := by decide +kernel
theorem dX7_letMinutePass_41 : decode cX7_letMinutePass 41 = .ok (.iaload, 1) := by decide +kernel
theorem dX7_letMinutePass_42 : decode cX7_letMinutePass 42 = .ok (.aload_n 0, 1) := by decide +kernel
theorem dX7_letMinutePass_43 : decode cX7_letMinutePass 43 = .ok (.getfield 12, 3) := by decide +kernel
theorem dX7_letMinutePass_46 : decode cX7_letMinutePass 46 = .ok (.invokevirtual 224, 3) := by decide +kernel
theorem dX7_letMinutePass_49 : decode cX7_letMinutePass 49 = .ok (.iadd, 1) := by decide +kernel
theorem dX7_letMinutePass_50 : decode cX7_letMinutePass 50 = .ok (.iastore, 1) := by decide +kernel
theorem dX7_letMinutePass_51 : decode cX7_letMinutePass 51 = .ok (.iconst 0, 1) := by decide +kernel
theorem dX7_letMinutePass_52 : decode cX7_letMinutePass 52 = .ok (.istore_n 2, 1) := by decide +kernel
theorem dX7_letMinutePass_53 : decode cX7_letMinutePass 53 = .ok (.iload_n 2, 1) := by decide +kernel
theorem dX7_letMinutePass_54 : decode cX7_letMinutePass 54 = .ok (.aload_n 0, 1) := by decide +kernel
theorem dX7_letMinutePass_55 : decode cX7_letMinutePass 55 = .ok (.getfield 28, 3) := by decide +kernel
theorem dX7_letMinutePass_58 : decode cX7_letMinutePass 58 = .ok (.getfield 131, 3) := by decide +kernel
theorem dX7_letMinutePass_61 : decode cX7_letMinutePass 61 = .ok (.if_icmp .ge 22, 3) := by decide +kernel
theorem dX7_letMinutePass_64 : decode cX7_letMinutePass 64 = .ok (.aload_n 0, 1) := by decide +kernel
theorem dX7_letMinutePass_65 : decode cX7_letMinutePass 65 = .ok (.getfield 28, 3) := by decide +kernel
theorem dX7_letMinutePass_68 : decode cX7_letMinutePass 68 = .ok (.iload_n 2, 1) := by decide +kernel
theorem dX7_letMinutePass_69 : decode cX7_letMinutePass 69 = .ok (.aload_n 0, 1) := by decide +kernel
theorem dX7_letMinutePass_70 : decode cX7_letMinutePass 70 = .ok (.iload_n 2, 1) := by decide +kernel
theorem dX7_letMinutePass_71 : decode cX7_letMinutePass 71 = .ok (.invokevirtual 180, 3) := by decide +kernel
theorem dX7_letMinutePass_74 : decode cX7_letMinutePass 74 = .ok (.invokevirtual 227, 3) := by decide +kernel
theorem dX7_letMinutePass_77 : decode cX7_letMinutePass 77 = .ok (.iinc 2 1, 3) := by decide +kernel
theorem dX7_letMinutePass_80 : decode cX7_letMinutePass 80 = .ok (.goto (-27), 3) := by decide +kernel
theorem dX7_letMinutePass_83 : decode cX7_letMinutePass 83 = .ok (.aload_n 0, 1) := by decide +kernel
theorem dX7_letMinutePass_84 : decode cX7_letMinutePass 84 = .ok (.invokevirtual 231, 3) := by decide +kernel
theorem dX7_letMinutePass_87 : decode cX7_letMinutePass 87 = .ok (.istore_n 2, 1) := by decide +kernel
theorem dX7_letMinutePass_88 : decode cX7_letMinutePass 88 = .ok (.aload_n 0, 1) := by decide +kernel
theorem dX7_letMinutePass_89 : decode cX7_letMinutePass 89 = .ok (.invokevirtual 234, 3) := by decide +kernel
theorem dX7_letMinutePass_92 : decode cX7_letMinutePass 92 = .ok (.iload_n 2, 1) := by decide +kernel
theorem dX7_letMinutePass_93 : decode cX7_letMinutePass 93 = .ok (.ireturn, 1) := by decide +kernel
set_option maxRecDepth 20000 in
theorem ggX7_takeEvents_X1_dueIn : GoodIn wsX7_takeEvents wsX1_dueIn := goodIn_r _ [8, 9, 10, 69, 70, 71, 72, 73] (by decide +kernel) (by decide +kernel)
set_option maxRecDepth 20000 in
theorem gX7_takeEvents_X1_dueIn : GoodIn wsX7_takeEvents (wsV RX7 237 RX1 yX1_dueIn wsX1_dueIn) := goodIn_app (goodIn_of _ (by decide +kernel)) ggX7_takeEvents_X1_dueIn
set_option maxRecDepth 20000 in
theorem ggX7_takeEvents_X7_takeEvent : GoodIn wsX7_takeEvents wsX7_takeEvent := goodIn_r _ [15, 1, 16, 17, 18, 19, 20, 21, 22, 23, 24, 25, 26, 27, 28, 29, 30, 31, 32, 33, 34, 35, 36, 37, 38, 39, 40, 41, 42, 43, 44, 45, 46, 47, 48, 49, 61, 62, 63, 64, 65, 66, 67, 68, 69, 70, 71, 72, 73, 74, 75, 76, 77, 78, 79, 80, 81, 82, 83, 84, 85, 86, 87, 88, 89, 90, 91] (by decide +kernel) (by decide +kernel)
set_option maxRecDepth 20000 in
theorem gX7_takeEvents_X7_takeEvent : GoodIn wsX7_takeEvents (wsV RX7 240 RX7 yX7_takeEvent wsX7_takeEvent) := goodIn_app (goodIn_of _ (by decide +kernel)) ggX7_takeEvents_X7_takeEvent
set_option maxRecDepth 20000 in
theorem ggX7_takeEvents_X1_dropFirst : GoodIn wsX7_takeEvents wsX1_dropFirst := goodIn_r _ [53, 9, 54, 55, 56, 7, 57, 10, 58, 59, 60, 69, 70, 71, 72, 73] (by decide +kernel) (by decide +kernel)
set_option maxRecDepth 20000 in
theorem gX7_takeEvents_X1_dropFirst : GoodIn wsX7_takeEvents (wsV RX7 243 RX1 yX1_dropFirst wsX1_dropFirst) := goodIn_app (goodIn_of _ (by decide +kernel)) ggX7_takeEvents_X1_dropFirst
theorem dX7_takeEvents_0 : decode cX7_takeEvents 0 = .ok (.aload_n 0, 1) := by decide +kernel
theorem dX7_takeEvents_1 : decode cX7_takeEvents 1 = .ok (.getfield 49, 3) := by decide +kernel
theorem dX7_takeEvents_4 : decode cX7_takeEvents 4 = .ok (.aload_n 0, 1) := by decide +kernel
theorem dX7_takeEvents_5 : decode cX7_takeEvents 5 = .ok (.getfield 57, 3) := by decide +kernel
theorem dX7_takeEvents_8 : decode cX7_takeEvents 8 = .ok (.invokevirtual 237, 3) := by decide +kernel
theorem dX7_takeEvents_11 : decode cX7_takeEvents 11 = .ok (.istore_n 1, 1) := by decide +kernel
theorem dX7_takeEvents_12 : decode cX7_takeEvents 12 = .ok (.iconst 0, 1) := by decide +kernel
theorem dX7_takeEvents_13 : decode cX7_takeEvents 13 = .ok (.istore_n 2, 1) := by decide +kernel
theorem dX7_takeEvents_14 : decode cX7_takeEvents 14 = .ok (.iload_n 2, 1) := by decide +kernel
theorem dX7_takeEvents_15 : decode cX7_takeEvents 15 = .ok (.iload_n 1, 1) := by decide +kernel
theorem dX7_takeEvents_16 : decode cX7_takeEvents 16 = .ok (.if_icmp .ge 14, 3) := by decide +kernel
theorem dX7_takeEvents_19 : decode cX7_takeEvents 19 = .ok (.aload_n 0, 1) := by decide +kernel
theorem dX7_takeEvents_20 : decode cX7_takeEvents 20 = .ok (.iload_n 2, 1) := by decide +kernel
theorem dX7_takeEvents_21 : decode cX7_takeEvents 21 = .ok (.invokevirtual 240, 3) := by decide +kernel
theorem dX7_takeEvents_24 : decode cX7_takeEvents 24 = .ok (.iinc 2 1, 3) := by decide +kernel
theorem dX7_takeEvents_27 : decode cX7_takeEvents 27 = .ok (.goto (-13), 3) := by decide +kernel
theorem dX7_takeEvents_30 : decode cX7_takeEvents 30 = .ok (.aload_n 0, 1) := by decide +kernel
theorem dX7_takeEvents_31 : decode cX7_takeEvents 31 = .ok (.getfield 49, 3) := by decide +kernel
theorem dX7_takeEvents_34 : decode cX7_takeEvents 34 = .ok (.iload_n 1, 1) := by decide +kernel
theorem dX7_takeEvents_35 : decode cX7_takeEvents 35 = .ok (.invokevirtual 243, 3) := by decide +kernel
theorem dX7_takeEvents_38 : decode cX7_takeEvents 38 = .ok (.aload_n 0, 1) := by decide +kernel
theorem dX7_takeEvents_39 : decode cX7_takeEvents 39 = .ok (.getfield 53, 3) := by decide +kernel
theorem dX7_takeEvents_42 : decode cX7_takeEvents 42 = .ok (.iconst 2, 1) := by decide +kernel
theorem dX7_takeEvents_43 : decode cX7_takeEvents 43 = .ok (.dup2, 1) := by decide +kernel
theorem dX7_takeEvents_44 : decode cX7_takeEvents 44 = .ok (.iaload, 1) := by decide +kernel
theorem dX7_takeEvents_45 : decode cX7_takeEvents 45 = .ok (.iload_n 1, 1) := by decide +kernel
theorem dX7_takeEvents_46 : decode cX7_takeEvents 46 = .ok (.iadd, 1) := by decide +kernel
theorem dX7_takeEvents_47 : decode cX7_takeEvents 47 = .ok (.iastore, 1) := by decide +kernel
theorem dX7_takeEvents_48 : decode cX7_takeEvents 48 = .ok (.return_, 1) := by decide +kernel
set_option maxRecDepth 20000 in
theorem ggX7_takeEvent_X3_turnDoor : GoodIn wsX7_takeEvent wsX3_turnDoor := goodIn_r _ [15, 16, 17, 18, 14, 19, 63, 64, 65, 66] (by decide +kernel) (by decide +kernel)
set_option maxRecDepth 20000 in
theorem gX7_takeEvent_X3_turnDoor : GoodIn wsX7_takeEvent (wsV RX7 253 RX3 yX3_turnDoor wsX3_turnDoor) := goodIn_app (goodIn_of _ (by decide +kernel)) ggX7_takeEvent_X3_turnDoor
set_option maxRecDepth 20000 in
theorem ggX7_takeEvent_X2_feed : GoodIn wsX7_takeEvent wsX2_feed := goodIn_r _ [24, 25, 26, 27, 28, 29, 49, 50, 51, 52, 53, 54] (by decide +kernel) (by decide +kernel)
set_option maxRecDepth 20000 in
theorem gX7_takeEvent_X2_feed : GoodIn wsX7_takeEvent (wsV RX7 257 RX2 yX2_feed wsX2_feed) := goodIn_app (goodIn_of _ (by decide +kernel)) ggX7_takeEvent_X2_feed
set_option maxRecDepth 20000 in
theorem ggX7_takeEvent_X6_has : GoodIn wsX7_takeEvent wsX6_has := goodIn_r _ [34, 35, 55, 56, 57, 58, 59, 60, 61, 62] (by decide +kernel) (by decide +kernel)
set_option maxRecDepth 20000 in
theorem gX7_takeEvent_X6_has : GoodIn wsX7_takeEvent (wsV RX7 212 RX6 yX6_has wsX6_has) := goodIn_app (goodIn_of _ (by decide +kernel)) ggX7_takeEvent_X6_has
theorem dX7_takeEvent_0 : decode cX7_takeEvent 0 = .ok (.aload_n 0, 1) := by decide +kernel
theorem dX7_takeEvent_1 : decode cX7_takeEvent 1 = .ok (.getfield 49, 3) := by decide +kernel
theorem dX7_takeEvent_4 : decode cX7_takeEvent 4 = .ok (.getfield 246, 3) := by decide +kernel
theorem dX7_takeEvent_7 : decode cX7_takeEvent 7 = .ok (.iload_n 1, 1) := by decide +kernel
theorem dX7_takeEvent_8 : decode cX7_takeEvent 8 = .ok (.iaload, 1) := by decide +kernel
theorem dX7_takeEvent_9 : decode cX7_takeEvent 9 = .ok (.istore_n 2, 1) := by decide +kernel
theorem dX7_takeEvent_10 : decode cX7_takeEvent 10 = .ok (.aload_n 0, 1) := by decide +kernel
theorem dX7_takeEvent_11 : decode cX7_takeEvent 11 = .ok (.getfield 49, 3) := by decide +kernel
theorem dX7_takeEvent_14 : decode cX7_takeEvent 14 = .ok (.getfield 249, 3) := by decide +kernel
theorem dX7_takeEvent_17 : decode cX7_takeEvent 17 = .ok (.iload_n 1, 1) := by decide +kernel
theorem dX7_takeEvent_18 : decode cX7_takeEvent 18 = .ok (.iaload, 1) := by decide +kernel
theorem dX7_takeEvent_19 : decode cX7_takeEvent 19 = .ok (.istore_n 3, 1) := by decide +kernel
theorem dX7_takeEvent_20 : decode cX7_takeEvent 20 = .ok (.aload_n 0, 1) := by decide +kernel
theorem dX7_takeEvent_21 : decode cX7_takeEvent 21 = .ok (.getfield 49, 3) := by decide +kernel
theorem dX7_takeEvent_24 : decode cX7_takeEvent 24 = .ok (.getfield 252, 3) := by decide +kernel
theorem dX7_takeEvent_27 : decode cX7_takeEvent 27 = .ok (.iload_n 1, 1) := by decide +kernel
theorem dX7_takeEvent_28 : decode cX7_takeEvent 28 = .ok (.iaload, 1) := by decide +kernel
theorem dX7_takeEvent_29 : decode cX7_takeEvent 29 = .ok (.tableswitch 89 0 3 #[31, 43, 54, 65], 31) := by decide +kernel
theorem dX7_takeEvent_60 : decode cX7_takeEvent 60 = .ok (.aload_n 0, 1) := by decide +kernel
theorem dX7_takeEvent_61 : decode cX7_takeEvent 61 = .ok (.getfield 12, 3) := by decide +kernel
theorem dX7_takeEvent_64 : decode cX7_takeEvent 64 = .ok (.iload_n 2, 1) := by decide +kernel
theorem dX7_takeEvent_65 : decode cX7_takeEvent 65 = .ok (.iload_n 3, 1) := by decide +kernel
theorem dX7_takeEvent_66 : decode cX7_takeEvent 66 = .ok (.invokevirtual 253, 3) := by decide +kernel
theorem dX7_takeEvent_69 : decode cX7_takeEvent 69 = .ok (.goto 71, 3) := by decide +kernel
theorem dX7_takeEvent_72 : decode cX7_takeEvent 72 = .ok (.aload_n 0, 1) := by decide +kernel
theorem dX7_takeEvent_73 : decode cX7_takeEvent 73 = .ok (.getfield 21, 3) := by decide +kernel
theorem dX7_takeEvent_76 : decode cX7_takeEvent 76 = .ok (.iload_n 2, 1) := by decide +kernel
theorem dX7_takeEvent_77 : decode cX7_takeEvent 77 = .ok (.invokevirtual 257, 3) := by decide +kernel
theorem dX7_takeEvent_80 : decode cX7_takeEvent 80 = .ok (.goto 60, 3) := by decide +kernel
theorem dX7_takeEvent_83 : decode cX7_takeEvent 83 = .ok (.aload_n 0, 1) := by decide +kernel
theorem dX7_takeEvent_84 : decode cX7_takeEvent 84 = .ok (.getfield 21, 3) := by decide +kernel
theorem dX7_takeEvent_87 : decode cX7_takeEvent 87 = .ok (.iload_n 2, 1) := by decide +kernel
theorem dX7_takeEvent_88 : decode cX7_takeEvent 88 = .ok (.putfield 96, 3) := by decide +kernel
theorem dX7_takeEvent_91 : decode cX7_takeEvent 91 = .ok (.goto 49, 3) := by decide +kernel
theorem dX7_takeEvent_94 : decode cX7_takeEvent 94 = .ok (.aload_n 0, 1) := by decide +kernel
theorem dX7_takeEvent_95 : decode cX7_takeEvent 95 = .ok (.getfield 28, 3) := by decide +kernel
theorem dX7_takeEvent_98 : decode cX7_takeEvent 98 = .ok (.iload_n 2, 1) := by decide +kernel
theorem dX7_takeEvent_99 : decode cX7_takeEvent 99 = .ok (.invokevirtual 212, 3) := by decide +kernel
theorem dX7_takeEvent_102 : decode cX7_takeEvent 102 = .ok (.ifCond .eq 38, 3) := by decide +kernel
theorem dX7_takeEvent_105 : decode cX7_takeEvent 105 = .ok (.aload_n 0, 1) := by decide +kernel
theorem dX7_takeEvent_106 : decode cX7_takeEvent 106 = .ok (.getfield 28, 3) := by decide +kernel
theorem dX7_takeEvent_109 : decode cX7_takeEvent 109 = .ok (.getfield 174, 3) := by decide +kernel
theorem dX7_takeEvent_112 : decode cX7_takeEvent 112 = .ok (.iload_n 2, 1) := by decide +kernel
theorem dX7_takeEvent_113 : decode cX7_takeEvent 113 = .ok (.iload_n 3, 1) := by decide +kernel
theorem dX7_takeEvent_114 : decode cX7_takeEvent 114 = .ok (.iastore, 1) := by decide +kernel
theorem dX7_takeEvent_115 : decode cX7_takeEvent 115 = .ok (.goto 25, 3) := by decide +kernel
theorem dX7_takeEvent_118 : decode cX7_takeEvent 118 = .ok (.aload_n 0, 1) := by decide +kernel
theorem dX7_takeEvent_119 : decode cX7_takeEvent 119 = .ok (.getfield 21, 3) := by decide +kernel
theorem dX7_takeEvent_122 : decode cX7_takeEvent 122 = .ok (.aload_n 0, 1) := by decide +kernel
theorem dX7_takeEvent_123 : decode cX7_takeEvent 123 = .ok (.getfield 21, 3) := by decide +kernel
theorem dX7_takeEvent_126 : decode cX7_takeEvent 126 = .ok (.getfield 105, 3) := by decide +kernel
theorem dX7_takeEvent_129 : decode cX7_takeEvent 129 = .ok (.ifCond .ne 7, 3) := by decide +kernel
theorem dX7_takeEvent_132 : decode cX7_takeEvent 132 = .ok (.iconst 1, 1) := by decide +kernel
theorem dX7_takeEvent_133 : decode cX7_takeEvent 133 = .ok (.goto 4, 3) := by decide +kernel
theorem dX7_takeEvent_136 : decode cX7_takeEvent 136 = .ok (.iconst 0, 1) := by decide +kernel
theorem dX7_takeEvent_137 : decode cX7_takeEvent 137 = .ok (.putfield 105, 3) := by decide +kernel
theorem dX7_takeEvent_140 : decode cX7_takeEvent 140 = .ok (.return_, 1) := by decide +kernel
set_option maxRecDepth 20000 in
theorem ggX7_letSmokeRise_X2_draft : GoodIn wsX7_letSmokeRise wsX2_draft := goodIn_r _ [13, 14, 15, 16, 29, 30, 31, 32, 33, 34] (by decide +kernel) (by decide +kernel)
set_option maxRecDepth 20000 in
theorem gX7_letSmokeRise_X2_draft : GoodIn wsX7_letSmokeRise (wsV RX7 128 RX2 yX2_draft wsX2_draft) := goodIn_app (goodIn_of _ (by decide +kernel)) ggX7_letSmokeRise_X2_draft
theorem dX7_letSmokeRise_0 : decode cX7_letSmokeRise 0 = .ok (.aload_n 0, 1) := by decide +kernel
theorem dX7_letSmokeRise_1 : decode cX7_letSmokeRise 1 = .ok (.getfield 21, 3) := by decide +kernel
theorem dX7_letSmokeRise_4 : decode cX7_letSmokeRise 4 = .ok (.invokevirtual 128, 3) := by decide +kernel
theorem dX7_letSmokeRise_7 : decode cX7_letSmokeRise 7 = .ok (.istore_n 2, 1) := by decide +kernel
theorem dX7_letSmokeRise_8 : decode cX7_letSmokeRise 8 = .ok (.bipush 40, 2) := by decide +kernel
theorem dX7_letSmokeRise_10 : decode cX7_letSmokeRise 10 = .ok (.iload_n 1, 1) := by decide +kernel
theorem dX7_letSmokeRise_11 : decode cX7_letSmokeRise 11 = .ok (.imul, 1) := by decide +kernel
theorem dX7_letSmokeRise_12 : decode cX7_letSmokeRise 12 = .ok (.istore_n 3, 1) := by decide +kernel
theorem dX7_letSmokeRise_13 : decode cX7_letSmokeRise 13 = .ok (.iload_n 3, 1) := by decide +kernel
theorem dX7_letSmokeRise_14 : decode cX7_letSmokeRise 14 = .ok (.iconst 2, 1) := by decide +kernel
theorem dX7_letSmokeRise_15 : decode cX7_letSmokeRise 15 = .ok (.iload_n 2, 1) := by decide +kernel
theorem dX7_letSmokeRise_16 : decode cX7_letSmokeRise 16 = .ok (.imul, 1) := by decide +kernel
theorem dX7_letSmokeRise_17 : decode cX7_letSmokeRise 17 = .ok (.invokestatic 260, 3) := by decide +kernel
theorem dX7_letSmokeRise_20 : decode cX7_letSmokeRise 20 = .ok (.istore 4, 2) := by decide +kernel
theorem dX7_letSmokeRise_22 : decode cX7_letSmokeRise 22 = .ok (.aload_n 0, 1) := by decide +kernel
theorem dX7_letSmokeRise_23 : decode cX7_letSmokeRise 23 = .ok (.getfield 12, 3) := by decide +kernel
theorem dX7_letSmokeRise_26 : decode cX7_letSmokeRise 26 = .ok (.getfield 136, 3) := by decide +kernel
theorem dX7_letSmokeRise_29 : decode cX7_letSmokeRise 29 = .ok (.iconst 0, 1) := by decide +kernel
theorem dX7_letSmokeRise_30 : decode cX7_letSmokeRise 30 = .ok (.iaload, 1) := by decide +kernel
theorem dX7_letSmokeRise_31 : decode cX7_letSmokeRise 31 = .ok (.iload_n 3, 1) := by decide +kernel
theorem dX7_letSmokeRise_32 : decode cX7_letSmokeRise 32 = .ok (.iadd, 1) := by decide +kernel
theorem dX7_letSmokeRise_33 : decode cX7_letSmokeRise 33 = .ok (.iload 4, 2) := by decide +kernel
theorem dX7_letSmokeRise_35 : decode cX7_letSmokeRise 35 = .ok (.isub, 1) := by decide +kernel
theorem dX7_letSmokeRise_36 : decode cX7_letSmokeRise 36 = .ok (.istore 5, 2) := by decide +kernel
theorem dX7_letSmokeRise_38 : decode cX7_letSmokeRise 38 = .ok (.iload 5, 2) := by decide +kernel
theorem dX7_letSmokeRise_40 : decode cX7_letSmokeRise 40 = .ok (.iload_n 2, 1) := by decide +kernel
theorem dX7_letSmokeRise_41 : decode cX7_letSmokeRise 41 = .ok (.iconst 2, 1) := by decide +kernel
theorem dX7_letSmokeRise_42 : decode cX7_letSmokeRise 42 = .ok (.idiv, 1) := by decide +kernel
theorem dX7_letSmokeRise_43 : decode cX7_letSmokeRise 43 = .ok (.invokestatic 260, 3) := by decide +kernel
theorem dX7_letSmokeRise_46 : decode cX7_letSmokeRise 46 = .ok (.istore 6, 2) := by decide +kernel
theorem dX7_letSmokeRise_48 : decode cX7_letSmokeRise 48 = .ok (.aload_n 0, 1) := by decide +kernel
theorem dX7_letSmokeRise_49 : decode cX7_letSmokeRise 49 = .ok (.getfield 12, 3) := by decide +kernel
theorem dX7_letSmokeRise_52 : decode cX7_letSmokeRise 52 = .ok (.getfield 136, 3) := by decide +kernel
theorem dX7_letSmokeRise_55 : decode cX7_letSmokeRise 55 = .ok (.iconst 0, 1) := by decide +kernel
theorem dX7_letSmokeRise_56 : decode cX7_letSmokeRise 56 = .ok (.iload 5, 2) := by decide +kernel
theorem dX7_letSmokeRise_58 : decode cX7_letSmokeRise 58 = .ok (.iload 6, 2) := by decide +kernel
theorem dX7_letSmokeRise_60 : decode cX7_letSmokeRise 60 = .ok (.isub, 1) := by decide +kernel
theorem dX7_letSmokeRise_61 : decode cX7_letSmokeRise 61 = .ok (.iastore, 1) := by decide +kernel
theorem dX7_letSmokeRise_62 : decode cX7_letSmokeRise 62 = .ok (.aload_n 0, 1) := by decide +kernel
theorem dX7_letSmokeRise_63 : decode cX7_letSmokeRise 63 = .ok (.getfield 53, 3) := by decide +kernel
theorem dX7_letSmokeRise_66 : decode cX7_letSmokeRise 66 = .ok (.iconst 3, 1) := by decide +kernel
theorem dX7_letSmokeRise_67 : decode cX7_letSmokeRise 67 = .ok (.dup2, 1) := by decide +kernel
theorem dX7_letSmokeRise_68 : decode cX7_letSmokeRise 68 = .ok (.iaload, 1) := by decide +kernel
theorem dX7_letSmokeRise_69 : decode cX7_letSmokeRise 69 = .ok (.iload 4, 2) := by decide +kernel
theorem dX7_letSmokeRise_71 : decode cX7_letSmokeRise 71 = .ok (.iload 6, 2) := by decide +kernel
theorem dX7_letSmokeRise_73 : decode cX7_letSmokeRise 73 = .ok (.iadd, 1) := by decide +kernel
theorem dX7_letSmokeRise_74 : decode cX7_letSmokeRise 74 = .ok (.iadd, 1) := by decide +kernel
theorem dX7_letSmokeRise_75 : decode cX7_letSmokeRise 75 = .ok (.iastore, 1) := by decide +kernel
theorem dX7_letSmokeRise_76 : decode cX7_letSmokeRise 76 = .ok (.return_, 1) := by decide +kernel
set_option maxRecDepth 20000 in
theorem ggX7_countAlarms_X0_soundsIn : GoodIn wsX7_countAlarms wsX0_soundsIn := goodIn_r _ [9, 10, 11, 66, 67, 68, 69] (by decide +kernel) (by decide +kernel)
set_option maxRecDepth 20000 in
theorem gX7_countAlarms_X0_soundsIn : GoodIn wsX7_countAlarms (wsV RX7 145 RX0 yX0_soundsIn wsX0_soundsIn) := goodIn_app (goodIn_of _ (by decide +kernel)) ggX7_countAlarms_X0_soundsIn
set_option maxRecDepth 20000 in
theorem ggX7_countAlarms_X7_isAgreedOn : GoodIn wsX7_countAlarms wsX7_isAgreedOn := goodIn_r _ [16, 17, 3, 18, 19, 20, 21, 22, 23, 24, 25, 26, 27, 28, 29, 30, 31, 32, 33, 34, 35, 36, 37, 38, 39, 40, 41, 42, 43, 44, 54, 55, 56, 57, 58, 59, 60, 61, 66, 67, 68, 69, 70, 71, 72, 73, 74, 75, 76, 77] (by decide +kernel) (by decide +kernel)
set_option maxRecDepth 20000 in
theorem gX7_countAlarms_X7_isAgreedOn : GoodIn wsX7_countAlarms (wsV RX7 149 RX7 yX7_isAgreedOn wsX7_isAgreedOn) := goodIn_app (goodIn_of _ (by decide +kernel)) ggX7_countAlarms_X7_isAgreedOn
set_option maxRecDepth 20000 in
theorem ggX7_countAlarms_X0_countMinute : GoodIn wsX7_countAlarms wsX0_countMinute := goodIn_r _ [48, 11, 49, 50, 51, 52, 10, 53, 66, 67, 68, 69] (by decide +kernel) (by decide +kernel)
set_option maxRecDepth 20000 in
theorem gX7_countAlarms_X0_countMinute : GoodIn wsX7_countAlarms (wsV RX7 266 RX0 yX0_countMinute wsX0_countMinute) := goodIn_app (goodIn_of _ (by decide +kernel)) ggX7_countAlarms_X0_countMinute
theorem dX7_countAlarms_0 : decode cX7_countAlarms 0 = .ok (.iconst 0, 1) := by decide +kernel
theorem dX7_countAlarms_1 : decode cX7_countAlarms 1 = .ok (.istore_n 1, 1) := by decide +kernel
theorem dX7_countAlarms_2 : decode cX7_countAlarms 2 = .ok (.iconst 0, 1) := by decide +kernel
theorem dX7_countAlarms_3 : decode cX7_countAlarms 3 = .ok (.istore_n 2, 1) := by decide +kernel
theorem dX7_countAlarms_4 : decode cX7_countAlarms 4 = .ok (.iconst 0, 1) := by decide +kernel
theorem dX7_countAlarms_5 : decode cX7_countAlarms 5 = .ok (.istore_n 3, 1) := by decide +kernel
theorem dX7_countAlarms_6 : decode cX7_countAlarms 6 = .ok (.iload_n 3, 1) := by decide +kernel
theorem dX7_countAlarms_7 : decode cX7_countAlarms 7 = .ok (.aload_n 0, 1) := by decide +kernel
theorem dX7_countAlarms_8 : decode cX7_countAlarms 8 = .ok (.getfield 12, 3) := by decide +kernel
theorem dX7_countAlarms_11 : decode cX7_countAlarms 11 = .ok (.getfield 115, 3) := by decide +kernel
theorem dX7_countAlarms_14 : decode cX7_countAlarms 14 = .ok (.if_icmp .ge 70, 3) := by decide +kernel
theorem dX7_countAlarms_17 : decode cX7_countAlarms 17 = .ok (.aload_n 0, 1) := by decide +kernel
theorem dX7_countAlarms_18 : decode cX7_countAlarms 18 = .ok (.getfield 35, 3) := by decide +kernel
theorem dX7_countAlarms_21 : decode cX7_countAlarms 21 = .ok (.iload_n 3, 1) := by decide +kernel
theorem dX7_countAlarms_22 : decode cX7_countAlarms 22 = .ok (.invokevirtual 145, 3) := by decide +kernel
theorem dX7_countAlarms_25 : decode cX7_countAlarms 25 = .ok (.istore 4, 2) := by decide +kernel
theorem dX7_countAlarms_27 : decode cX7_countAlarms 27 = .ok (.aload_n 0, 1) := by decide +kernel
theorem dX7_countAlarms_28 : decode cX7_countAlarms 28 = .ok (.iload_n 3, 1) := by decide +kernel
theorem dX7_countAlarms_29 : decode cX7_countAlarms 29 = .ok (.invokevirtual 149, 3) := by decide +kernel
theorem dX7_countAlarms_32 : decode cX7_countAlarms 32 = .ok (.istore 5, 2) := by decide +kernel
theorem dX7_countAlarms_34 : decode cX7_countAlarms 34 = .ok (.aload_n 0, 1) := by decide +kernel
theorem dX7_countAlarms_35 : decode cX7_countAlarms 35 = .ok (.getfield 35, 3) := by decide +kernel
theorem dX7_countAlarms_38 : decode cX7_countAlarms 38 = .ok (.iload_n 3, 1) := by decide +kernel
theorem dX7_countAlarms_39 : decode cX7_countAlarms 39 = .ok (.iload 5, 2) := by decide +kernel
theorem dX7_countAlarms_41 : decode cX7_countAlarms 41 = .ok (.invokevirtual 266, 3) := by decide +kernel
theorem dX7_countAlarms_44 : decode cX7_countAlarms 44 = .ok (.aload_n 0, 1) := by decide +kernel
theorem dX7_countAlarms_45 : decode cX7_countAlarms 45 = .ok (.getfield 35, 3) := by decide +kernel
theorem dX7_countAlarms_48 : decode cX7_countAlarms 48 = .ok (.iload_n 3, 1) := by decide +kernel
theorem dX7_countAlarms_49 : decode cX7_countAlarms 49 = .ok (.invokevirtual 145, 3) := by decide +kernel
theorem dX7_countAlarms_52 : decode cX7_countAlarms 52 = .ok (.ifCond .eq 11, 3) := by decide +kernel
theorem dX7_countAlarms_55 : decode cX7_countAlarms 55 = .ok (.iload 4, 2) := by decide +kernel
theorem dX7_countAlarms_57 : decode cX7_countAlarms 57 = .ok (.ifCond .ne 6, 3) := by decide +kernel
theorem dX7_countAlarms_60 : decode cX7_countAlarms 60 = .ok (.iinc 1 1, 3) := by decide +kernel
theorem dX7_countAlarms_63 : decode cX7_countAlarms 63 = .ok (.iload_n 2, 1) := by decide +kernel
theorem dX7_countAlarms_64 : decode cX7_countAlarms 64 = .ok (.ifCond .ne 8, 3) := by decide +kernel
theorem dX7_countAlarms_67 : decode cX7_countAlarms 67 = .ok (.iload 5, 2) := by decide +kernel
theorem dX7_countAlarms_69 : decode cX7_countAlarms 69 = .ok (.ifCond .eq 7, 3) := by decide +kernel
theorem dX7_countAlarms_72 : decode cX7_countAlarms 72 = .ok (.iconst 1, 1) := by decide +kernel
theorem dX7_countAlarms_73 : decode cX7_countAlarms 73 = .ok (.goto 4, 3) := by decide +kernel
theorem dX7_countAlarms_76 : decode cX7_countAlarms 76 = .ok (.iconst 0, 1) := by decide +kernel
theorem dX7_countAlarms_77 : decode cX7_countAlarms 77 = .ok (.istore_n 2, 1) := by decide +kernel
theorem dX7_countAlarms_78 : decode cX7_countAlarms 78 = .ok (.iinc 3 1, 3) := by decide +kernel
theorem dX7_countAlarms_81 : decode cX7_countAlarms 81 = .ok (.goto (-75), 3) := by decide +kernel
theorem dX7_countAlarms_84 : decode cX7_countAlarms 84 = .ok (.aload_n 0, 1) := by decide +kernel
theorem dX7_countAlarms_85 : decode cX7_countAlarms 85 = .ok (.getfield 53, 3) := by decide +kernel
theorem dX7_countAlarms_88 : decode cX7_countAlarms 88 = .ok (.iconst 0, 1) := by decide +kernel
theorem dX7_countAlarms_89 : decode cX7_countAlarms 89 = .ok (.dup2, 1) := by decide +kernel
theorem dX7_countAlarms_90 : decode cX7_countAlarms 90 = .ok (.iaload, 1) := by decide +kernel
theorem dX7_countAlarms_91 : decode cX7_countAlarms 91 = .ok (.iload_n 1, 1) := by decide +kernel
theorem dX7_countAlarms_92 : decode cX7_countAlarms 92 = .ok (.iadd, 1) := by decide +kernel
theorem dX7_countAlarms_93 : decode cX7_countAlarms 93 = .ok (.iastore, 1) := by decide +kernel
theorem dX7_countAlarms_94 : decode cX7_countAlarms 94 = .ok (.iload_n 2, 1) := by decide +kernel
theorem dX7_countAlarms_95 : decode cX7_countAlarms 95 = .ok (.ifCond .eq 13, 3) := by decide +kernel
theorem dX7_countAlarms_98 : decode cX7_countAlarms 98 = .ok (.aload_n 0, 1) := by decide +kernel
theorem dX7_countAlarms_99 : decode cX7_countAlarms 99 = .ok (.getfield 53, 3) := by decide +kernel
theorem dX7_countAlarms_102 : decode cX7_countAlarms 102 = .ok (.iconst 5, 1) := by decide +kernel
theorem dX7_countAlarms_103 : decode cX7_countAlarms 103 = .ok (.dup2, 1) := by decide +kernel
theorem dX7_countAlarms_104 : decode cX7_countAlarms 104 = .ok (.iaload, 1) := by decide +kernel
theorem dX7_countAlarms_105 : decode cX7_countAlarms 105 = .ok (.iconst 1, 1) := by decide +kernel
theorem dX7_countAlarms_106 : decode cX7_countAlarms 106 = .ok (.iadd, 1) := by decide +kernel
theorem dX7_countAlarms_107 : decode cX7_countAlarms 107 = .ok (.iastore, 1) := by decide +kernel
theorem dX7_countAlarms_108 : decode cX7_countAlarms 108 = .ok (.iload_n 1, 1) := by decide +kernel
theorem dX7_countAlarms_109 : decode cX7_countAlarms 109 = .ok (.ireturn, 1) := by decide +kernel
set_option maxRecDepth 20000 in
theorem ggX7_moveByRules_X7_firstRule : GoodIn wsX7_moveByRules wsX7_firstRule := goodIn_r _ [10, 1, 11, 12, 13, 14, 9, 15, 16, 17, 18, 19, 2, 20, 21, 22, 23, 24, 25, 26, 27, 28, 29, 30, 31, 32, 33, 34, 35, 36, 37, 38, 39, 40, 41, 42, 43, 44, 45, 46, 47, 48, 49, 50, 51, 64, 65, 66, 67, 68, 69, 70, 71, 72, 73, 74, 75, 76, 83, 84, 85, 86, 77, 78, 79, 80, 81, 82, 87, 88, 89, 90] (by decide +kernel) (by decide +kernel)
set_option maxRecDepth 20000 in
theorem gX7_moveByRules_X7_firstRule : GoodIn wsX7_moveByRules (wsV RX7 267 RX7 yX7_firstRule wsX7_firstRule) := goodIn_app (goodIn_of _ (by decide +kernel)) ggX7_moveByRules_X7_firstRule
set_option maxRecDepth 20000 in
theorem ggX7_moveByRules_X5_has : GoodIn wsX7_moveByRules wsX5_has := goodIn_r _ [56, 57, 72, 73, 74, 75, 76] (by decide +kernel) (by decide +kernel)
set_option maxRecDepth 20000 in
theorem gX7_moveByRules_X5_has : GoodIn wsX7_moveByRules (wsV RX7 270 RX5 yX5_has wsX5_has) := goodIn_app (goodIn_of _ (by decide +kernel)) ggX7_moveByRules_X5_has
set_option maxRecDepth 20000 in
theorem ggX7_moveByRules_X2_moveDamper : GoodIn wsX7_moveByRules wsX2_moveDamper := goodIn_r _ [61, 62, 34, 63, 77, 78, 79, 80, 81, 82] (by decide +kernel) (by decide +kernel)
set_option maxRecDepth 20000 in
theorem gX7_moveByRules_X2_moveDamper : GoodIn wsX7_moveByRules (wsV RX7 273 RX2 yX2_moveDamper wsX2_moveDamper) := goodIn_app (goodIn_of _ (by decide +kernel)) ggX7_moveByRules_X2_moveDamper
theorem dX7_moveByRules_0 : decode cX7_moveByRules 0 = .ok (.aload_n 0, 1) := by decide +kernel
theorem dX7_moveByRules_1 : decode cX7_moveByRules 1 = .ok (.invokevirtual 267, 3) := by decide +kernel
theorem dX7_moveByRules_4 : decode cX7_moveByRules 4 = .ok (.istore_n 1, 1) := by decide +kernel
theorem dX7_moveByRules_5 : decode cX7_moveByRules 5 = .ok (.aload_n 0, 1) := by decide +kernel
theorem dX7_moveByRules_6 : decode cX7_moveByRules 6 = .ok (.getfield 42, 3) := by decide +kernel
theorem dX7_moveByRules_9 : decode cX7_moveByRules 9 = .ok (.iload_n 1, 1) := by decide +kernel
theorem dX7_moveByRules_10 : decode cX7_moveByRules 10 = .ok (.invokevirtual 270, 3) := by decide +kernel
theorem dX7_moveByRules_13 : decode cX7_moveByRules 13 = .ok (.ifCond .eq 19, 3) := by decide +kernel
theorem dX7_moveByRules_16 : decode cX7_moveByRules 16 = .ok (.aload_n 0, 1) := by decide +kernel
theorem dX7_moveByRules_17 : decode cX7_moveByRules 17 = .ok (.getfield 21, 3) := by decide +kernel
theorem dX7_moveByRules_20 : decode cX7_moveByRules 20 = .ok (.aload_n 0, 1) := by decide +kernel
theorem dX7_moveByRules_21 : decode cX7_moveByRules 21 = .ok (.getfield 42, 3) := by decide +kernel
theorem dX7_moveByRules_24 : decode cX7_moveByRules 24 = .ok (.getfield 271, 3) := by decide +kernel
theorem dX7_moveByRules_27 : decode cX7_moveByRules 27 = .ok (.iload_n 1, 1) := by decide +kernel
theorem dX7_moveByRules_28 : decode cX7_moveByRules 28 = .ok (.iaload, 1) := by decide +kernel
theorem dX7_moveByRules_29 : decode cX7_moveByRules 29 = .ok (.putfield 125, 3) := by decide +kernel
theorem dX7_moveByRules_32 : decode cX7_moveByRules 32 = .ok (.aload_n 0, 1) := by decide +kernel
theorem dX7_moveByRules_33 : decode cX7_moveByRules 33 = .ok (.getfield 21, 3) := by decide +kernel
theorem dX7_moveByRules_36 : decode cX7_moveByRules 36 = .ok (.invokevirtual 273, 3) := by decide +kernel
theorem dX7_moveByRules_39 : decode cX7_moveByRules 39 = .ok (.ifCond .eq 13, 3) := by decide +kernel
theorem dX7_moveByRules_42 : decode cX7_moveByRules 42 = .ok (.aload_n 0, 1) := by decide +kernel
theorem dX7_moveByRules_43 : decode cX7_moveByRules 43 = .ok (.getfield 53, 3) := by decide +kernel
theorem dX7_moveByRules_46 : decode cX7_moveByRules 46 = .ok (.iconst 1, 1) := by decide +kernel
theorem dX7_moveByRules_47 : decode cX7_moveByRules 47 = .ok (.dup2, 1) := by decide +kernel
theorem dX7_moveByRules_48 : decode cX7_moveByRules 48 = .ok (.iaload, 1) := by decide +kernel
theorem dX7_moveByRules_49 : decode cX7_moveByRules 49 = .ok (.iconst 1, 1) := by decide +kernel
theorem dX7_moveByRules_50 : decode cX7_moveByRules 50 = .ok (.iadd, 1) := by decide +kernel
theorem dX7_moveByRules_51 : decode cX7_moveByRules 51 = .ok (.iastore, 1) := by decide +kernel
theorem dX7_moveByRules_52 : decode cX7_moveByRules 52 = .ok (.return_, 1) := by decide +kernel
set_option maxRecDepth 20000 in
theorem ggX4_init_X7_init : GoodIn wsX4_init wsX7_init := goodIn_r _ [9, 10, 2, 3, 11, 12, 13, 14, 15, 16, 17, 18, 19, 20, 21, 22, 23, 24, 25, 26, 27, 28, 29, 30, 31, 32, 33, 34, 35, 36, 37, 38, 39, 40, 41, 42, 43, 44, 45, 46, 47, 48, 49, 50, 51, 52, 53, 54, 55, 56, 57, 58, 59, 60, 61, 62, 63, 64, 65, 66, 67, 68, 69, 70, 71, 72, 73, 74, 75, 76, 77, 78, 90, 91, 92, 93, 82, 83, 84, 85, 86, 87, 88, 89, 94, 95, 96, 97, 98, 99, 100, 101, 102, 103, 104, 105, 106, 107, 108, 109, 110, 111, 112, 113, 114, 115, 116, 117, 118, 119, 120, 121] (by decide +kernel) (by decide +kernel)
set_option maxRecDepth 20000 in
theorem gX4_init_X7_init_n17 : GoodIn wsX4_init (wsX7_init) := ggX4_init_X7_init
theorem dX4_init_0 : decode cX4_init 0 = .ok (.aload_n 0, 1) := by decide +kernel
theorem dX4_init_1 : decode cX4_init 1 = .ok (.invokespecial 3, 3) := by decide +kernel
theorem dX4_init_4 : decode cX4_init 4 = .ok (.aload_n 0, 1) := by decide +kernel
theorem dX4_init_5 : decode cX4_init 5 = .ok (.iconst 4, 1) := by decide +kernel
theorem dX4_init_6 : decode cX4_init 6 = .ok (.anewarray 9, 3) := by decide +kernel
theorem dX4_init_9 : decode cX4_init 9 = .ok (.putfield 11, 3) := by decide +kernel
theorem dX4_init_12 : decode cX4_init 12 = .ok (.iconst 0, 1) := by decide +kernel
theorem dX4_init_13 : decode cX4_init 13 = .ok (.istore_n 1, 1) := by decide +kernel
theorem dX4_init_14 : decode cX4_init 14 = .ok (.iload_n 1, 1) := by decide +kernel
theorem dX4_init_15 : decode cX4_init 15 = .ok (.iconst 4, 1) := by decide +kernel
theorem dX4_init_16 : decode cX4_init 16 = .ok (.if_icmp .ge 22, 3) := by decide +kernel
theorem dX4_init_19 : decode cX4_init 19 = .ok (.aload_n 0, 1) := by decide +kernel
theorem dX4_init_20 : decode cX4_init 20 = .ok (.getfield 11, 3) := by decide +kernel
theorem dX4_init_23 : decode cX4_init 23 = .ok (.iload_n 1, 1) := by decide +kernel
theorem dX4_init_24 : decode cX4_init 24 = .ok (.new 9, 3) := by decide +kernel
theorem dX4_init_27 : decode cX4_init 27 = .ok (.dup, 1) := by decide +kernel
theorem dX4_init_28 : decode cX4_init 28 = .ok (.invokespecial 17, 3) := by decide +kernel
theorem dX4_init_31 : decode cX4_init 31 = .ok (.aastore, 1) := by decide +kernel
theorem dX4_init_32 : decode cX4_init 32 = .ok (.iinc 1 1, 3) := by decide +kernel
theorem dX4_init_35 : decode cX4_init 35 = .ok (.goto (-21), 3) := by decide +kernel
theorem dX4_init_38 : decode cX4_init 38 = .ok (.return_, 1) := by decide +kernel
theorem dX4_row_0 : decode cX4_row 0 = .ok (.aload_n 0, 1) := by decide +kernel
theorem dX4_row_1 : decode cX4_row 1 = .ok (.getfield 11, 3) := by decide +kernel
theorem dX4_row_4 : decode cX4_row 4 = .ok (.aload_n 0, 1) := by decide +kernel
theorem dX4_row_5 : decode cX4_row 5 = .ok (.getfield 18, 3) := by decide +kernel
theorem dX4_row_8 : decode cX4_row 8 = .ok (.iload_n 1, 1) := by decide +kernel
theorem dX4_row_9 : decode cX4_row 9 = .ok (.iadd, 1) := by decide +kernel
theorem dX4_row_10 : decode cX4_row 10 = .ok (.iconst 4, 1) := by decide +kernel
theorem dX4_row_11 : decode cX4_row 11 = .ok (.irem, 1) := by decide +kernel
theorem dX4_row_12 : decode cX4_row 12 = .ok (.aaload, 1) := by decide +kernel
theorem dX4_row_13 : decode cX4_row 13 = .ok (.areturn, 1) := by decide +kernel
set_option maxRecDepth 20000 in
theorem ggX4_keep_X4_row : GoodIn wsX4_keep wsX4_row := goodIn_r _ [7, 8, 2, 94, 95, 96] (by decide +kernel) (by decide +kernel)
set_option maxRecDepth 20000 in
theorem gX4_keep_X4_row : GoodIn wsX4_keep (wsV RX4 25 RX4 yX4_row wsX4_row) := goodIn_app (goodIn_of _ (by decide +kernel)) ggX4_keep_X4_row
set_option maxRecDepth 20000 in
theorem ggX4_keep_X7_copyFrom : GoodIn wsX4_keep wsX7_copyFrom := goodIn_r _ [13, 14, 15, 16, 17, 18, 19, 20, 21, 22, 23, 24, 25, 26, 27, 28, 29, 30, 31, 32, 33, 34, 35, 36, 37, 38, 39, 40, 41, 42, 43, 44, 45, 46, 47, 48, 49, 50, 51, 52, 53, 54, 55, 56, 57, 58, 59, 60, 61, 62, 63, 64, 65, 66, 67, 68, 69, 70, 71, 72, 73, 74, 75, 76, 77, 78, 79, 80, 81, 82, 83, 84, 85, 86, 87, 88, 89, 90, 91, 92, 93, 97, 98, 99, 100, 101, 102, 103, 104, 105, 106, 107, 108, 109, 110, 111, 112, 113, 114, 115, 116, 117, 118, 119, 120, 121, 122, 123, 124, 125, 126, 127, 128, 129, 130, 131, 132, 133, 134, 135, 136] (by decide +kernel) (by decide +kernel)
set_option maxRecDepth 20000 in
theorem gX4_keep_X7_copyFrom : GoodIn wsX4_keep (wsV RX4 29 RX7 yX7_copyFrom wsX7_copyFrom) := goodIn_app (goodIn_of _ (by decide +kernel)) ggX4_keep_X7_copyFrom
theorem dX4_keep_0 : decode cX4_keep 0 = .ok (.aload_n 0, 1) := by decide +kernel
theorem dX4_keep_1 : decode cX4_keep 1 = .ok (.aload_n 0, 1) := by decide +kernel
theorem dX4_keep_2 : decode cX4_keep 2 = .ok (.getfield 22, 3) := by decide +kernel
theorem dX4_keep_5 : decode cX4_keep 5 = .ok (.invokevirtual 25, 3) := by decide +kernel
theorem dX4_keep_8 : decode cX4_keep 8 = .ok (.astore_n 2, 1) := by decide +kernel
theorem dX4_keep_9 : decode cX4_keep 9 = .ok (.aload_n 2, 1) := by decide +kernel
theorem dX4_keep_10 : decode cX4_keep 10 = .ok (.ifnull 8, 3) := by decide +kernel
theorem dX4_keep_13 : decode cX4_keep 13 = .ok (.aload_n 2, 1) := by decide +kernel
theorem dX4_keep_14 : decode cX4_keep 14 = .ok (.aload_n 1, 1) := by decide +kernel
theorem dX4_keep_15 : decode cX4_keep 15 = .ok (.invokevirtual 29, 3) := by decide +kernel
theorem dX4_keep_18 : decode cX4_keep 18 = .ok (.aload_n 0, 1) := by decide +kernel
theorem dX4_keep_19 : decode cX4_keep 19 = .ok (.getfield 22, 3) := by decide +kernel
theorem dX4_keep_22 : decode cX4_keep 22 = .ok (.iconst 4, 1) := by decide +kernel
theorem dX4_keep_23 : decode cX4_keep 23 = .ok (.if_icmp .ge 16, 3) := by decide +kernel
theorem dX4_keep_26 : decode cX4_keep 26 = .ok (.aload_n 0, 1) := by decide +kernel
theorem dX4_keep_27 : decode cX4_keep 27 = .ok (.dup, 1) := by decide +kernel
theorem dX4_keep_28 : decode cX4_keep 28 = .ok (.getfield 22, 3) := by decide +kernel
theorem dX4_keep_31 : decode cX4_keep 31 = .ok (.iconst 1, 1) := by decide +kernel
theorem dX4_keep_32 : decode cX4_keep 32 = .ok (.iadd, 1) := by decide +kernel
theorem dX4_keep_33 : decode cX4_keep 33 = .ok (.putfield 22, 3) := by decide +kernel
theorem dX4_keep_36 : decode cX4_keep 36 = .ok (.goto 15, 3) := by decide +kernel
theorem dX4_keep_39 : decode cX4_keep 39 = .ok (.aload_n 0, 1) := by decide +kernel
theorem dX4_keep_40 : decode cX4_keep 40 = .ok (.aload_n 0, 1) := by decide +kernel
theorem dX4_keep_41 : decode cX4_keep 41 = .ok (.getfield 18, 3) := by decide +kernel
theorem dX4_keep_44 : decode cX4_keep 44 = .ok (.iconst 1, 1) := by decide +kernel
theorem dX4_keep_45 : decode cX4_keep 45 = .ok (.iadd, 1) := by decide +kernel
theorem dX4_keep_46 : decode cX4_keep 46 = .ok (.iconst 4, 1) := by decide +kernel
theorem dX4_keep_47 : decode cX4_keep 47 = .ok (.irem, 1) := by decide +kernel
theorem dX4_keep_48 : decode cX4_keep 48 = .ok (.putfield 18, 3) := by decide +kernel
theorem dX4_keep_51 : decode cX4_keep 51 = .ok (.return_, 1) := by decide +kernel
set_option maxRecDepth 20000 in
theorem ggX4_giveBack_X4_row : GoodIn wsX4_giveBack wsX4_row := goodIn_r _ [6, 7, 8, 94, 95, 96] (by decide +kernel) (by decide +kernel)
set_option maxRecDepth 20000 in
theorem gX4_giveBack_X4_row : GoodIn wsX4_giveBack (wsV RX4 25 RX4 yX4_row wsX4_row) := goodIn_app (goodIn_of _ (by decide +kernel)) ggX4_giveBack_X4_row
set_option maxRecDepth 20000 in
theorem ggX4_giveBack_X7_copyFrom : GoodIn wsX4_giveBack wsX7_copyFrom := goodIn_r _ [13, 14, 15, 16, 17, 18, 19, 20, 21, 22, 23, 24, 25, 26, 27, 28, 29, 30, 31, 32, 33, 34, 35, 36, 37, 38, 39, 40, 41, 42, 43, 44, 45, 46, 47, 48, 49, 50, 51, 52, 53, 54, 55, 56, 57, 58, 59, 60, 61, 62, 63, 64, 65, 66, 67, 68, 69, 70, 71, 72, 73, 74, 75, 76, 77, 78, 79, 80, 81, 82, 83, 84, 85, 86, 87, 88, 89, 90, 91, 92, 93, 97, 98, 99, 100, 101, 102, 103, 104, 105, 106, 107, 108, 109, 110, 111, 112, 113, 114, 115, 116, 117, 118, 119, 120, 121, 122, 123, 124, 125, 126, 127, 128, 129, 130, 131, 132, 133, 134, 135, 136] (by decide +kernel) (by decide +kernel)
set_option maxRecDepth 20000 in
theorem gX4_giveBack_X7_copyFrom : GoodIn wsX4_giveBack (wsV RX4 29 RX7 yX7_copyFrom wsX7_copyFrom) := goodIn_app (goodIn_of _ (by decide +kernel)) ggX4_giveBack_X7_copyFrom
theorem dX4_giveBack_0 : decode cX4_giveBack 0 = .ok (.aload_n 0, 1) := by decide +kernel
theorem dX4_giveBack_1 : decode cX4_giveBack 1 = .ok (.getfield 22, 3) := by decide +kernel
theorem dX4_giveBack_4 : decode cX4_giveBack 4 = .ok (.ifCond .ne 4, 3) := by decide +kernel
theorem dX4_giveBack_7 : decode cX4_giveBack 7 = .ok (.return_, 1) := by decide +kernel
theorem dX4_giveBack_8 : decode cX4_giveBack 8 = .ok (.aload_n 0, 1) := by decide +kernel
theorem dX4_giveBack_9 : decode cX4_giveBack 9 = .ok (.dup, 1) := by decide +kernel
theorem dX4_giveBack_10 : decode cX4_giveBack 10 = .ok (.getfield 22, 3) := by decide +kernel
theorem dX4_giveBack_13 : decode cX4_giveBack 13 = .ok (.iconst 1, 1) := by decide +kernel
theorem dX4_giveBack_14 : decode cX4_giveBack 14 = .ok (.isub, 1) := by decide +kernel
theorem dX4_giveBack_15 : decode cX4_giveBack 15 = .ok (.putfield 22, 3) := by decide +kernel
theorem dX4_giveBack_18 : decode cX4_giveBack 18 = .ok (.aload_n 0, 1) := by decide +kernel
theorem dX4_giveBack_19 : decode cX4_giveBack 19 = .ok (.aload_n 0, 1) := by decide +kernel
theorem dX4_giveBack_20 : decode cX4_giveBack 20 = .ok (.getfield 22, 3) := by decide +kernel
theorem dX4_giveBack_23 : decode cX4_giveBack 23 = .ok (.invokevirtual 25, 3) := by decide +kernel
theorem dX4_giveBack_26 : decode cX4_giveBack 26 = .ok (.astore_n 2, 1) := by decide +kernel
theorem dX4_giveBack_27 : decode cX4_giveBack 27 = .ok (.aload_n 2, 1) := by decide +kernel
theorem dX4_giveBack_28 : decode cX4_giveBack 28 = .ok (.ifnull 8, 3) := by decide +kernel
theorem dX4_giveBack_31 : decode cX4_giveBack 31 = .ok (.aload_n 1, 1) := by decide +kernel
theorem dX4_giveBack_32 : decode cX4_giveBack 32 = .ok (.aload_n 2, 1) := by decide +kernel
theorem dX4_giveBack_33 : decode cX4_giveBack 33 = .ok (.invokevirtual 29, 3) := by decide +kernel
theorem dX4_giveBack_36 : decode cX4_giveBack 36 = .ok (.return_, 1) := by decide +kernel
