theorem dX0_init_0 : decode cX0_init 0 = .ok (.aload_n 0, 1) := by decide +kernel
theorem dX0_init_1 : decode cX0_init 1 = .ok (.invokespecial 3, 3) := by decide +kernel
theorem dX0_init_4 : decode cX0_init 4 = .ok (.aload_n 0, 1) := by decide +kernel
theorem dX0_init_5 : decode cX0_init 5 = .ok (.iconst 2, 1) := by decide +kernel
theorem dX0_init_6 : decode cX0_init 6 = .ok (.putfield 11, 3) := by decide +kernel
theorem dX0_init_9 : decode cX0_init 9 = .ok (.aload_n 0, 1) := by decide +kernel
theorem dX0_init_10 : decode cX0_init 10 = .ok (.iconst 3, 1) := by decide +kernel
theorem dX0_init_11 : decode cX0_init 11 = .ok (.putfield 15, 3) := by decide +kernel
theorem dX0_init_14 : decode cX0_init 14 = .ok (.aload_n 0, 1) := by decide +kernel
theorem dX0_init_15 : decode cX0_init 15 = .ok (.iconst 4, 1) := by decide +kernel
theorem dX0_init_16 : decode cX0_init 16 = .ok (.newarray .int, 2) := by decide +kernel
theorem dX0_init_18 : decode cX0_init 18 = .ok (.putfield 18, 3) := by decide +kernel
theorem dX0_init_21 : decode cX0_init 21 = .ok (.aload_n 0, 1) := by decide +kernel
theorem dX0_init_22 : decode cX0_init 22 = .ok (.iconst 4, 1) := by decide +kernel
theorem dX0_init_23 : decode cX0_init 23 = .ok (.newarray .int, 2) := by decide +kernel
theorem dX0_init_25 : decode cX0_init 25 = .ok (.putfield 22, 3) := by decide +kernel
theorem dX0_init_28 : decode cX0_init 28 = .ok (.return_, 1) := by decide +kernel
theorem dX0_startAnew_0 : decode cX0_startAnew 0 = .ok (.aload_n 0, 1) := by decide +kernel
theorem dX0_startAnew_1 : decode cX0_startAnew 1 = .ok (.iconst 2, 1) := by decide +kernel
theorem dX0_startAnew_2 : decode cX0_startAnew 2 = .ok (.putfield 11, 3) := by decide +kernel
theorem dX0_startAnew_5 : decode cX0_startAnew 5 = .ok (.aload_n 0, 1) := by decide +kernel
theorem dX0_startAnew_6 : decode cX0_startAnew 6 = .ok (.iconst 3, 1) := by decide +kernel
theorem dX0_startAnew_7 : decode cX0_startAnew 7 = .ok (.putfield 15, 3) := by decide +kernel
theorem dX0_startAnew_10 : decode cX0_startAnew 10 = .ok (.iconst 0, 1) := by decide +kernel
theorem dX0_startAnew_11 : decode cX0_startAnew 11 = .ok (.istore_n 1, 1) := by decide +kernel
theorem dX0_startAnew_12 : decode cX0_startAnew 12 = .ok (.iload_n 1, 1) := by decide +kernel
theorem dX0_startAnew_13 : decode cX0_startAnew 13 = .ok (.iconst 4, 1) := by decide +kernel
theorem dX0_startAnew_14 : decode cX0_startAnew 14 = .ok (.if_icmp .ge 23, 3) := by decide +kernel
theorem dX0_startAnew_17 : decode cX0_startAnew 17 = .ok (.aload_n 0, 1) := by decide +kernel
theorem dX0_startAnew_18 : decode cX0_startAnew 18 = .ok (.getfield 18, 3) := by decide +kernel
theorem dX0_startAnew_21 : decode cX0_startAnew 21 = .ok (.iload_n 1, 1) := by decide +kernel
theorem dX0_startAnew_22 : decode cX0_startAnew 22 = .ok (.iconst 0, 1) := by decide +kernel
theorem dX0_startAnew_23 : decode cX0_startAnew 23 = .ok (.iastore, 1) := by decide +kernel
theorem dX0_startAnew_24 : decode cX0_startAnew 24 = .ok (.aload_n 0, 1) := by decide +kernel
theorem dX0_startAnew_25 : decode cX0_startAnew 25 = .ok (.getfield 22, 3) := by decide +kernel
theorem dX0_startAnew_28 : decode cX0_startAnew 28 = .ok (.iload_n 1, 1) := by decide +kernel
theorem dX0_startAnew_29 : decode cX0_startAnew 29 = .ok (.iconst 0, 1) := by decide +kernel
theorem dX0_startAnew_30 : decode cX0_startAnew 30 = .ok (.iastore, 1) := by decide +kernel
theorem dX0_startAnew_31 : decode cX0_startAnew 31 = .ok (.iinc 1 1, 3) := by decide +kernel
theorem dX0_startAnew_34 : decode cX0_startAnew 34 = .ok (.goto (-22), 3) := by decide +kernel
theorem dX0_startAnew_37 : decode cX0_startAnew 37 = .ok (.return_, 1) := by decide +kernel
set_option maxRecDepth 20000 in
theorem ggX0_copyFrom_X8_copyRow : GoodIn wsX0_copyFrom wsX8_copyRow := goodIn_r _ [7, 8, 9, 10, 11, 12, 13, 14, 15] (by decide +kernel) (by decide +kernel)
set_option maxRecDepth 20000 in
theorem gX0_copyFrom_X8_copyRow_n25 : GoodIn wsX0_copyFrom (wsX8_copyRow) := ggX0_copyFrom_X8_copyRow
theorem dX0_copyFrom_0 : decode cX0_copyFrom 0 = .ok (.aload_n 0, 1) := by decide +kernel
theorem dX0_copyFrom_1 : decode cX0_copyFrom 1 = .ok (.aload_n 1, 1) := by decide +kernel
theorem dX0_copyFrom_2 : decode cX0_copyFrom 2 = .ok (.getfield 11, 3) := by decide +kernel
theorem dX0_copyFrom_5 : decode cX0_copyFrom 5 = .ok (.putfield 11, 3) := by decide +kernel
theorem dX0_copyFrom_8 : decode cX0_copyFrom 8 = .ok (.aload_n 0, 1) := by decide +kernel
theorem dX0_copyFrom_9 : decode cX0_copyFrom 9 = .ok (.aload_n 1, 1) := by decide +kernel
theorem dX0_copyFrom_10 : decode cX0_copyFrom 10 = .ok (.getfield 15, 3) := by decide +kernel
theorem dX0_copyFrom_13 : decode cX0_copyFrom 13 = .ok (.putfield 15, 3) := by decide +kernel
theorem dX0_copyFrom_16 : decode cX0_copyFrom 16 = .ok (.aload_n 1, 1) := by decide +kernel
theorem dX0_copyFrom_17 : decode cX0_copyFrom 17 = .ok (.getfield 18, 3) := by decide +kernel
theorem dX0_copyFrom_20 : decode cX0_copyFrom 20 = .ok (.aload_n 0, 1) := by decide +kernel
theorem dX0_copyFrom_21 : decode cX0_copyFrom 21 = .ok (.getfield 18, 3) := by decide +kernel
theorem dX0_copyFrom_24 : decode cX0_copyFrom 24 = .ok (.invokestatic 25, 3) := by decide +kernel
theorem dX0_copyFrom_27 : decode cX0_copyFrom 27 = .ok (.aload_n 1, 1) := by decide +kernel
theorem dX0_copyFrom_28 : decode cX0_copyFrom 28 = .ok (.getfield 22, 3) := by decide +kernel
theorem dX0_copyFrom_31 : decode cX0_copyFrom 31 = .ok (.aload_n 0, 1) := by decide +kernel
theorem dX0_copyFrom_32 : decode cX0_copyFrom 32 = .ok (.getfield 22, 3) := by decide +kernel
theorem dX0_copyFrom_35 : decode cX0_copyFrom 35 = .ok (.invokestatic 25, 3) := by decide +kernel
theorem dX0_copyFrom_38 : decode cX0_copyFrom 38 = .ok (.return_, 1) := by decide +kernel
theorem dX0_soundsIn_0 : decode cX0_soundsIn 0 = .ok (.aload_n 0, 1) := by decide +kernel
theorem dX0_soundsIn_1 : decode cX0_soundsIn 1 = .ok (.getfield 18, 3) := by decide +kernel
theorem dX0_soundsIn_4 : decode cX0_soundsIn 4 = .ok (.iload_n 1, 1) := by decide +kernel
theorem dX0_soundsIn_5 : decode cX0_soundsIn 5 = .ok (.iaload, 1) := by decide +kernel
theorem dX0_soundsIn_6 : decode cX0_soundsIn 6 = .ok (.ifCond .le 16, 3) := by decide +kernel
theorem dX0_soundsIn_9 : decode cX0_soundsIn 9 = .ok (.aload_n 0, 1) := by decide +kernel
theorem dX0_soundsIn_10 : decode cX0_soundsIn 10 = .ok (.getfield 22, 3) := by decide +kernel
theorem dX0_soundsIn_13 : decode cX0_soundsIn 13 = .ok (.iload_n 1, 1) := by decide +kernel
theorem dX0_soundsIn_14 : decode cX0_soundsIn 14 = .ok (.iaload, 1) := by decide +kernel
theorem dX0_soundsIn_15 : decode cX0_soundsIn 15 = .ok (.ifCond .ne 7, 3) := by decide +kernel
theorem dX0_soundsIn_18 : decode cX0_soundsIn 18 = .ok (.iconst 1, 1) := by decide +kernel
theorem dX0_soundsIn_19 : decode cX0_soundsIn 19 = .ok (.goto 4, 3) := by decide +kernel
theorem dX0_soundsIn_22 : decode cX0_soundsIn 22 = .ok (.iconst 0, 1) := by decide +kernel
theorem dX0_soundsIn_23 : decode cX0_soundsIn 23 = .ok (.ireturn, 1) := by decide +kernel
theorem dX0_countMinute_0 : decode cX0_countMinute 0 = .ok (.aload_n 0, 1) := by decide +kernel
theorem dX0_countMinute_1 : decode cX0_countMinute 1 = .ok (.getfield 22, 3) := by decide +kernel
theorem dX0_countMinute_4 : decode cX0_countMinute 4 = .ok (.iload_n 1, 1) := by decide +kernel
theorem dX0_countMinute_5 : decode cX0_countMinute 5 = .ok (.aload_n 0, 1) := by decide +kernel
theorem dX0_countMinute_6 : decode cX0_countMinute 6 = .ok (.getfield 22, 3) := by decide +kernel
theorem dX0_countMinute_9 : decode cX0_countMinute 9 = .ok (.iload_n 1, 1) := by decide +kernel
theorem dX0_countMinute_10 : decode cX0_countMinute 10 = .ok (.iaload, 1) := by decide +kernel
theorem dX0_countMinute_11 : decode cX0_countMinute 11 = .ok (.iconst 1, 1) := by decide +kernel
theorem dX0_countMinute_12 : decode cX0_countMinute 12 = .ok (.isub, 1) := by decide +kernel
theorem dX0_countMinute_13 : decode cX0_countMinute 13 = .ok (.iconst 0, 1) := by decide +kernel
theorem dX0_countMinute_14 : decode cX0_countMinute 14 = .ok (.invokestatic 29, 3) := by decide +kernel
theorem dX0_countMinute_17 : decode cX0_countMinute 17 = .ok (.iastore, 1) := by decide +kernel
theorem dX0_countMinute_18 : decode cX0_countMinute 18 = .ok (.aload_n 0, 1) := by decide +kernel
theorem dX0_countMinute_19 : decode cX0_countMinute 19 = .ok (.getfield 18, 3) := by decide +kernel
theorem dX0_countMinute_22 : decode cX0_countMinute 22 = .ok (.iload_n 1, 1) := by decide +kernel
theorem dX0_countMinute_23 : decode cX0_countMinute 23 = .ok (.iload_n 2, 1) := by decide +kernel
theorem dX0_countMinute_24 : decode cX0_countMinute 24 = .ok (.ifCond .eq 12, 3) := by decide +kernel
theorem dX0_countMinute_27 : decode cX0_countMinute 27 = .ok (.aload_n 0, 1) := by decide +kernel
theorem dX0_countMinute_28 : decode cX0_countMinute 28 = .ok (.getfield 15, 3) := by decide +kernel
theorem dX0_countMinute_31 : decode cX0_countMinute 31 = .ok (.iconst 1, 1) := by decide +kernel
theorem dX0_countMinute_32 : decode cX0_countMinute 32 = .ok (.iadd, 1) := by decide +kernel
theorem dX0_countMinute_33 : decode cX0_countMinute 33 = .ok (.goto 15, 3) := by decide +kernel
theorem dX0_countMinute_36 : decode cX0_countMinute 36 = .ok (.aload_n 0, 1) := by decide +kernel
theorem dX0_countMinute_37 : decode cX0_countMinute 37 = .ok (.getfield 18, 3) := by decide +kernel
theorem dX0_countMinute_40 : decode cX0_countMinute 40 = .ok (.iload_n 1, 1) := by decide +kernel
theorem dX0_countMinute_41 : decode cX0_countMinute 41 = .ok (.iaload, 1) := by decide +kernel
theorem dX0_countMinute_42 : decode cX0_countMinute 42 = .ok (.iconst 1, 1) := by decide +kernel
theorem dX0_countMinute_43 : decode cX0_countMinute 43 = .ok (.isub, 1) := by decide +kernel
theorem dX0_countMinute_44 : decode cX0_countMinute 44 = .ok (.iconst 0, 1) := by decide +kernel
theorem dX0_countMinute_45 : decode cX0_countMinute 45 = .ok (.invokestatic 29, 3) := by decide +kernel
theorem dX0_countMinute_48 : decode cX0_countMinute 48 = .ok (.iastore, 1) := by decide +kernel
theorem dX0_countMinute_49 : decode cX0_countMinute 49 = .ok (.return_, 1) := by decide +kernel
theorem dX1_init_0 : decode cX1_init 0 = .ok (.aload_n 0, 1) := by decide +kernel
theorem dX1_init_1 : decode cX1_init 1 = .ok (.invokespecial 3, 3) := by decide +kernel
theorem dX1_init_4 : decode cX1_init 4 = .ok (.aload_n 0, 1) := by decide +kernel
theorem dX1_init_5 : decode cX1_init 5 = .ok (.bipush 20, 2) := by decide +kernel
theorem dX1_init_7 : decode cX1_init 7 = .ok (.newarray .int, 2) := by decide +kernel
theorem dX1_init_9 : decode cX1_init 9 = .ok (.putfield 9, 3) := by decide +kernel
theorem dX1_init_12 : decode cX1_init 12 = .ok (.aload_n 0, 1) := by decide +kernel
theorem dX1_init_13 : decode cX1_init 13 = .ok (.bipush 20, 2) := by decide +kernel
theorem dX1_init_15 : decode cX1_init 15 = .ok (.newarray .int, 2) := by decide +kernel
theorem dX1_init_17 : decode cX1_init 17 = .ok (.putfield 15, 3) := by decide +kernel
theorem dX1_init_20 : decode cX1_init 20 = .ok (.aload_n 0, 1) := by decide +kernel
theorem dX1_init_21 : decode cX1_init 21 = .ok (.bipush 20, 2) := by decide +kernel
theorem dX1_init_23 : decode cX1_init 23 = .ok (.newarray .int, 2) := by decide +kernel
theorem dX1_init_25 : decode cX1_init 25 = .ok (.putfield 18, 3) := by decide +kernel
theorem dX1_init_28 : decode cX1_init 28 = .ok (.aload_n 0, 1) := by decide +kernel
theorem dX1_init_29 : decode cX1_init 29 = .ok (.bipush 20, 2) := by decide +kernel
theorem dX1_init_31 : decode cX1_init 31 = .ok (.newarray .int, 2) := by decide +kernel
theorem dX1_init_33 : decode cX1_init 33 = .ok (.putfield 21, 3) := by decide +kernel
theorem dX1_init_36 : decode cX1_init 36 = .ok (.return_, 1) := by decide +kernel
theorem dX1_clear_0 : decode cX1_clear 0 = .ok (.aload_n 0, 1) := by decide +kernel
theorem dX1_clear_1 : decode cX1_clear 1 = .ok (.iconst 0, 1) := by decide +kernel
theorem dX1_clear_2 : decode cX1_clear 2 = .ok (.putfield 24, 3) := by decide +kernel
theorem dX1_clear_5 : decode cX1_clear 5 = .ok (.return_, 1) := by decide +kernel
set_option maxRecDepth 20000 in
theorem ggX1_copyFrom_X8_copyRow : GoodIn wsX1_copyFrom wsX8_copyRow := goodIn_r _ [8, 9, 10, 11, 12, 13, 14, 15, 16] (by decide +kernel) (by decide +kernel)
set_option maxRecDepth 20000 in
theorem gX1_copyFrom_X8_copyRow_n28 : GoodIn wsX1_copyFrom (wsX8_copyRow) := ggX1_copyFrom_X8_copyRow
theorem dX1_copyFrom_0 : decode cX1_copyFrom 0 = .ok (.aload_n 0, 1) := by decide +kernel
theorem dX1_copyFrom_1 : decode cX1_copyFrom 1 = .ok (.aload_n 1, 1) := by decide +kernel
theorem dX1_copyFrom_2 : decode cX1_copyFrom 2 = .ok (.getfield 24, 3) := by decide +kernel
theorem dX1_copyFrom_5 : decode cX1_copyFrom 5 = .ok (.putfield 24, 3) := by decide +kernel
theorem dX1_copyFrom_8 : decode cX1_copyFrom 8 = .ok (.aload_n 1, 1) := by decide +kernel
theorem dX1_copyFrom_9 : decode cX1_copyFrom 9 = .ok (.getfield 9, 3) := by decide +kernel
theorem dX1_copyFrom_12 : decode cX1_copyFrom 12 = .ok (.aload_n 0, 1) := by decide +kernel
theorem dX1_copyFrom_13 : decode cX1_copyFrom 13 = .ok (.getfield 9, 3) := by decide +kernel
theorem dX1_copyFrom_16 : decode cX1_copyFrom 16 = .ok (.invokestatic 28, 3) := by decide +kernel
theorem dX1_copyFrom_19 : decode cX1_copyFrom 19 = .ok (.aload_n 1, 1) := by decide +kernel
theorem dX1_copyFrom_20 : decode cX1_copyFrom 20 = .ok (.getfield 15, 3) := by decide +kernel
theorem dX1_copyFrom_23 : decode cX1_copyFrom 23 = .ok (.aload_n 0, 1) := by decide +kernel
theorem dX1_copyFrom_24 : decode cX1_copyFrom 24 = .ok (.getfield 15, 3) := by decide +kernel
theorem dX1_copyFrom_27 : decode cX1_copyFrom 27 = .ok (.invokestatic 28, 3) := by decide +kernel
theorem dX1_copyFrom_30 : decode cX1_copyFrom 30 = .ok (.aload_n 1, 1) := by decide +kernel
theorem dX1_copyFrom_31 : decode cX1_copyFrom 31 = .ok (.getfield 18, 3) := by decide +kernel
theorem dX1_copyFrom_34 : decode cX1_copyFrom 34 = .ok (.aload_n 0, 1) := by decide +kernel
theorem dX1_copyFrom_35 : decode cX1_copyFrom 35 = .ok (.getfield 18, 3) := by decide +kernel
theorem dX1_copyFrom_38 : decode cX1_copyFrom 38 = .ok (.invokestatic 28, 3) := by decide +kernel
theorem dX1_copyFrom_41 : decode cX1_copyFrom 41 = .ok (.aload_n 1, 1) := by decide +kernel
theorem dX1_copyFrom_42 : decode cX1_copyFrom 42 = .ok (.getfield 21, 3) := by decide +kernel
theorem dX1_copyFrom_45 : decode cX1_copyFrom 45 = .ok (.aload_n 0, 1) := by decide +kernel
theorem dX1_copyFrom_46 : decode cX1_copyFrom 46 = .ok (.getfield 21, 3) := by decide +kernel
theorem dX1_copyFrom_49 : decode cX1_copyFrom 49 = .ok (.invokestatic 28, 3) := by decide +kernel
theorem dX1_copyFrom_52 : decode cX1_copyFrom 52 = .ok (.return_, 1) := by decide +kernel
theorem dX1_has_0 : decode cX1_has 0 = .ok (.iload_n 1, 1) := by decide +kernel
theorem dX1_has_1 : decode cX1_has 1 = .ok (.ifCond .lt 15, 3) := by decide +kernel
theorem dX1_has_4 : decode cX1_has 4 = .ok (.iload_n 1, 1) := by decide +kernel
theorem dX1_has_5 : decode cX1_has 5 = .ok (.aload_n 0, 1) := by decide +kernel
theorem dX1_has_6 : decode cX1_has 6 = .ok (.getfield 24, 3) := by decide +kernel
theorem dX1_has_9 : decode cX1_has 9 = .ok (.if_icmp .ge 7, 3) := by decide +kernel
theorem dX1_has_12 : decode cX1_has 12 = .ok (.iconst 1, 1) := by decide +kernel
theorem dX1_has_13 : decode cX1_has 13 = .ok (.goto 4, 3) := by decide +kernel
theorem dX1_has_16 : decode cX1_has 16 = .ok (.iconst 0, 1) := by decide +kernel
theorem dX1_has_17 : decode cX1_has 17 = .ok (.ireturn, 1) := by decide +kernel
theorem dX1_about_0 : decode cX1_about 0 = .ok (.iload_n 2, 1) := by decide +kernel
theorem dX1_about_1 : decode cX1_about 1 = .ok (.tableswitch 48 0 2 #[27, 34, 41], 27) := by decide +kernel
theorem dX1_about_28 : decode cX1_about 28 = .ok (.aload_n 0, 1) := by decide +kernel
theorem dX1_about_29 : decode cX1_about 29 = .ok (.getfield 9, 3) := by decide +kernel
theorem dX1_about_32 : decode cX1_about 32 = .ok (.iload_n 1, 1) := by decide +kernel
theorem dX1_about_33 : decode cX1_about 33 = .ok (.iaload, 1) := by decide +kernel
theorem dX1_about_34 : decode cX1_about 34 = .ok (.ireturn, 1) := by decide +kernel
theorem dX1_about_35 : decode cX1_about 35 = .ok (.aload_n 0, 1) := by decide +kernel
theorem dX1_about_36 : decode cX1_about 36 = .ok (.getfield 15, 3) := by decide +kernel
theorem dX1_about_39 : decode cX1_about 39 = .ok (.iload_n 1, 1) := by decide +kernel
theorem dX1_about_40 : decode cX1_about 40 = .ok (.iaload, 1) := by decide +kernel
theorem dX1_about_41 : decode cX1_about 41 = .ok (.ireturn, 1) := by decide +kernel
theorem dX1_about_42 : decode cX1_about 42 = .ok (.aload_n 0, 1) := by decide +kernel
theorem dX1_about_43 : decode cX1_about 43 = .ok (.getfield 18, 3) := by decide +kernel
theorem dX1_about_46 : decode cX1_about 46 = .ok (.iload_n 1, 1) := by decide +kernel
theorem dX1_about_47 : decode cX1_about 47 = .ok (.iaload, 1) := by decide +kernel
theorem dX1_about_48 : decode cX1_about 48 = .ok (.ireturn, 1) := by decide +kernel
theorem dX1_about_49 : decode cX1_about 49 = .ok (.aload_n 0, 1) := by decide +kernel
theorem dX1_about_50 : decode cX1_about 50 = .ok (.getfield 21, 3) := by decide +kernel
theorem dX1_about_53 : decode cX1_about 53 = .ok (.iload_n 1, 1) := by decide +kernel
theorem dX1_about_54 : decode cX1_about 54 = .ok (.iaload, 1) := by decide +kernel
theorem dX1_about_55 : decode cX1_about 55 = .ok (.ireturn, 1) := by decide +kernel
set_option maxRecDepth 20000 in
theorem ggX1_insert_X1_moveEvent : GoodIn wsX1_insert wsX1_moveEvent := goodIn_r _ [10, 2, 3, 4, 5, 11, 12, 13, 14, 15] (by decide +kernel) (by decide +kernel)
set_option maxRecDepth 20000 in
theorem gX1_insert_X1_moveEvent : GoodIn wsX1_insert (wsV RX1 32 RX1 yX1_moveEvent wsX1_moveEvent) := goodIn_app (goodIn_of _ (by decide +kernel)) ggX1_insert_X1_moveEvent
theorem dX1_insert_0 : decode cX1_insert 0 = .ok (.aload_n 0, 1) := by decide +kernel
theorem dX1_insert_1 : decode cX1_insert 1 = .ok (.getfield 24, 3) := by decide +kernel
theorem dX1_insert_4 : decode cX1_insert 4 = .ok (.bipush 20, 2) := by decide +kernel
theorem dX1_insert_6 : decode cX1_insert 6 = .ok (.if_icmp .lt 4, 3) := by decide +kernel
theorem dX1_insert_9 : decode cX1_insert 9 = .ok (.return_, 1) := by decide +kernel
theorem dX1_insert_10 : decode cX1_insert 10 = .ok (.aload_n 0, 1) := by decide +kernel
theorem dX1_insert_11 : decode cX1_insert 11 = .ok (.getfield 24, 3) := by decide +kernel
theorem dX1_insert_14 : decode cX1_insert 14 = .ok (.istore 5, 2) := by decide +kernel
theorem dX1_insert_16 : decode cX1_insert 16 = .ok (.iload 5, 2) := by decide +kernel
theorem dX1_insert_18 : decode cX1_insert 18 = .ok (.ifCond .le 32, 3) := by decide +kernel
theorem dX1_insert_21 : decode cX1_insert 21 = .ok (.aload_n 0, 1) := by decide +kernel
theorem dX1_insert_22 : decode cX1_insert 22 = .ok (.getfield 9, 3) := by decide +kernel
theorem dX1_insert_25 : decode cX1_insert 25 = .ok (.iload 5, 2) := by decide +kernel
theorem dX1_insert_27 : decode cX1_insert 27 = .ok (.iconst 1, 1) := by decide +kernel
theorem dX1_insert_28 : decode cX1_insert 28 = .ok (.isub, 1) := by decide +kernel
theorem dX1_insert_29 : decode cX1_insert 29 = .ok (.iaload, 1) := by decide +kernel
theorem dX1_insert_30 : decode cX1_insert 30 = .ok (.iload_n 1, 1) := by decide +kernel
theorem dX1_insert_31 : decode cX1_insert 31 = .ok (.if_icmp .le 19, 3) := by decide +kernel
theorem dX1_insert_34 : decode cX1_insert 34 = .ok (.aload_n 0, 1) := by decide +kernel
theorem dX1_insert_35 : decode cX1_insert 35 = .ok (.iload 5, 2) := by decide +kernel
theorem dX1_insert_37 : decode cX1_insert 37 = .ok (.iconst 1, 1) := by decide +kernel
theorem dX1_insert_38 : decode cX1_insert 38 = .ok (.isub, 1) := by decide +kernel
theorem dX1_insert_39 : decode cX1_insert 39 = .ok (.iload 5, 2) := by decide +kernel
theorem dX1_insert_41 : decode cX1_insert 41 = .ok (.invokevirtual 32, 3) := by decide +kernel
theorem dX1_insert_44 : decode cX1_insert 44 = .ok (.iinc 5 (-1), 3) := by decide +kernel
theorem dX1_insert_47 : decode cX1_insert 47 = .ok (.goto (-31), 3) := by decide +kernel
theorem dX1_insert_50 : decode cX1_insert 50 = .ok (.aload_n 0, 1) := by decide +kernel
theorem dX1_insert_51 : decode cX1_insert 51 = .ok (.getfield 9, 3) := by decide +kernel
theorem dX1_insert_54 : decode cX1_insert 54 = .ok (.iload 5, 2) := by decide +kernel
theorem dX1_insert_56 : decode cX1_insert 56 = .ok (.iload_n 1, 1) := by decide +kernel
theorem dX1_insert_57 : decode cX1_insert 57 = .ok (.iastore, 1) := by decide +kernel
theorem dX1_insert_58 : decode cX1_insert 58 = .ok (.aload_n 0, 1) := by decide +kernel
theorem dX1_insert_59 : decode cX1_insert 59 = .ok (.getfield 15, 3) := by decide +kernel
theorem dX1_insert_62 : decode cX1_insert 62 = .ok (.iload 5, 2) := by decide +kernel
theorem dX1_insert_64 : decode cX1_insert 64 = .ok (.iload_n 2, 1) := by decide +kernel
theorem dX1_insert_65 : decode cX1_insert 65 = .ok (.iastore, 1) := by decide +kernel
theorem dX1_insert_66 : decode cX1_insert 66 = .ok (.aload_n 0, 1) := by decide +kernel
theorem dX1_insert_67 : decode cX1_insert 67 = .ok (.getfield 18, 3) := by decide +kernel
theorem dX1_insert_70 : decode cX1_insert 70 = .ok (.iload 5, 2) := by decide +kernel
theorem dX1_insert_72 : decode cX1_insert 72 = .ok (.iload_n 3, 1) := by decide +kernel
theorem dX1_insert_73 : decode cX1_insert 73 = .ok (.iastore, 1) := by decide +kernel
theorem dX1_insert_74 : decode cX1_insert 74 = .ok (.aload_n 0, 1) := by decide +kernel
theorem dX1_insert_75 : decode cX1_insert 75 = .ok (.getfield 21, 3) := by decide +kernel
theorem dX1_insert_78 : decode cX1_insert 78 = .ok (.iload 5, 2) := by decide +kernel
theorem dX1_insert_80 : decode cX1_insert 80 = .ok (.iload 4, 2) := by decide +kernel
theorem dX1_insert_82 : decode cX1_insert 82 = .ok (.iastore, 1) := by decide +kernel
theorem dX1_insert_83 : decode cX1_insert 83 = .ok (.aload_n 0, 1) := by decide +kernel
theorem dX1_insert_84 : decode cX1_insert 84 = .ok (.dup, 1) := by decide +kernel
theorem dX1_insert_85 : decode cX1_insert 85 = .ok (.getfield 24, 3) := by decide +kernel
theorem dX1_insert_88 : decode cX1_insert 88 = .ok (.iconst 1, 1) := by decide +kernel
theorem dX1_insert_89 : decode cX1_insert 89 = .ok (.iadd, 1) := by decide +kernel
theorem dX1_insert_90 : decode cX1_insert 90 = .ok (.putfield 24, 3) := by decide +kernel
theorem dX1_insert_93 : decode cX1_insert 93 = .ok (.return_, 1) := by decide +kernel
theorem dX1_dueIn_0 : decode cX1_dueIn 0 = .ok (.iconst 0, 1) := by decide +kernel
theorem dX1_dueIn_1 : decode cX1_dueIn 1 = .ok (.istore_n 2, 1) := by decide +kernel
theorem dX1_dueIn_2 : decode cX1_dueIn 2 = .ok (.iload_n 2, 1) := by decide +kernel
theorem dX1_dueIn_3 : decode cX1_dueIn 3 = .ok (.aload_n 0, 1) := by decide +kernel
theorem dX1_dueIn_4 : decode cX1_dueIn 4 = .ok (.getfield 24, 3) := by decide +kernel
theorem dX1_dueIn_7 : decode cX1_dueIn 7 = .ok (.if_icmp .ge 19, 3) := by decide +kernel
theorem dX1_dueIn_10 : decode cX1_dueIn 10 = .ok (.aload_n 0, 1) := by decide +kernel
theorem dX1_dueIn_11 : decode cX1_dueIn 11 = .ok (.getfield 9, 3) := by decide +kernel
theorem dX1_dueIn_14 : decode cX1_dueIn 14 = .ok (.iload_n 2, 1) := by decide +kernel
theorem dX1_dueIn_15 : decode cX1_dueIn 15 = .ok (.iaload, 1) := by decide +kernel
theorem dX1_dueIn_16 : decode cX1_dueIn 16 = .ok (.iload_n 1, 1) := by decide +kernel
theorem dX1_dueIn_17 : decode cX1_dueIn 17 = .ok (.if_icmp .gt 9, 3) := by decide +kernel
theorem dX1_dueIn_20 : decode cX1_dueIn 20 = .ok (.iinc 2 1, 3) := by decide +kernel
theorem dX1_dueIn_23 : decode cX1_dueIn 23 = .ok (.goto (-21), 3) := by decide +kernel
theorem dX1_dueIn_26 : decode cX1_dueIn 26 = .ok (.iload_n 2, 1) := by decide +kernel
theorem dX1_dueIn_27 : decode cX1_dueIn 27 = .ok (.ireturn, 1) := by decide +kernel
set_option maxRecDepth 20000 in
theorem ggX1_dropFirst_X1_moveEvent : GoodIn wsX1_dropFirst wsX1_moveEvent := goodIn_r _ [6, 7, 8, 9, 10, 11, 12, 13, 14, 15] (by decide +kernel) (by decide +kernel)
set_option maxRecDepth 20000 in
theorem gX1_dropFirst_X1_moveEvent : GoodIn wsX1_dropFirst (wsV RX1 32 RX1 yX1_moveEvent wsX1_moveEvent) := goodIn_app (goodIn_of _ (by decide +kernel)) ggX1_dropFirst_X1_moveEvent
theorem dX1_dropFirst_0 : decode cX1_dropFirst 0 = .ok (.iload_n 1, 1) := by decide +kernel
theorem dX1_dropFirst_1 : decode cX1_dropFirst 1 = .ok (.istore_n 2, 1) := by decide +kernel
theorem dX1_dropFirst_2 : decode cX1_dropFirst 2 = .ok (.iload_n 2, 1) := by decide +kernel
theorem dX1_dropFirst_3 : decode cX1_dropFirst 3 = .ok (.aload_n 0, 1) := by decide +kernel
theorem dX1_dropFirst_4 : decode cX1_dropFirst 4 = .ok (.getfield 24, 3) := by decide +kernel
theorem dX1_dropFirst_7 : decode cX1_dropFirst 7 = .ok (.if_icmp .ge 17, 3) := by decide +kernel
theorem dX1_dropFirst_10 : decode cX1_dropFirst 10 = .ok (.aload_n 0, 1) := by decide +kernel
theorem dX1_dropFirst_11 : decode cX1_dropFirst 11 = .ok (.iload_n 2, 1) := by decide +kernel
theorem dX1_dropFirst_12 : decode cX1_dropFirst 12 = .ok (.iload_n 2, 1) := by decide +kernel
theorem dX1_dropFirst_13 : decode cX1_dropFirst 13 = .ok (.iload_n 1, 1) := by decide +kernel
theorem dX1_dropFirst_14 : decode cX1_dropFirst 14 = .ok (.isub, 1) := by decide +kernel
theorem dX1_dropFirst_15 : decode cX1_dropFirst 15 = .ok (.invokevirtual 32, 3) := by decide +kernel
theorem dX1_dropFirst_18 : decode cX1_dropFirst 18 = .ok (.iinc 2 1, 3) := by decide +kernel
theorem dX1_dropFirst_21 : decode cX1_dropFirst 21 = .ok (.goto (-19), 3) := by decide +kernel
theorem dX1_dropFirst_24 : decode cX1_dropFirst 24 = .ok (.aload_n 0, 1) := by decide +kernel
theorem dX1_dropFirst_25 : decode cX1_dropFirst 25 = .ok (.dup, 1) := by decide +kernel
theorem dX1_dropFirst_26 : decode cX1_dropFirst 26 = .ok (.getfield 24, 3) := by decide +kernel
theorem dX1_dropFirst_29 : decode cX1_dropFirst 29 = .ok (.iload_n 1, 1) := by decide +kernel
theorem dX1_dropFirst_30 : decode cX1_dropFirst 30 = .ok (.isub, 1) := by decide +kernel
theorem dX1_dropFirst_31 : decode cX1_dropFirst 31 = .ok (.putfield 24, 3) := by decide +kernel
theorem dX1_dropFirst_34 : decode cX1_dropFirst 34 = .ok (.return_, 1) := by decide +kernel
theorem dX1_moveEvent_0 : decode cX1_moveEvent 0 = .ok (.aload_n 0, 1) := by decide +kernel
theorem dX1_moveEvent_1 : decode cX1_moveEvent 1 = .ok (.getfield 9, 3) := by decide +kernel
theorem dX1_moveEvent_4 : decode cX1_moveEvent 4 = .ok (.iload_n 2, 1) := by decide +kernel
theorem dX1_moveEvent_5 : decode cX1_moveEvent 5 = .ok (.aload_n 0, 1) := by decide +kernel
theorem dX1_moveEvent_6 : decode cX1_moveEvent 6 = .ok (.getfield 9, 3) := by decide +kernel
theorem dX1_moveEvent_9 : decode cX1_moveEvent 9 = .ok (.iload_n 1, 1) := by decide +kernel
theorem dX1_moveEvent_10 : decode cX1_moveEvent 10 = .ok (.iaload, 1) := by decide +kernel
theorem dX1_moveEvent_11 : decode cX1_moveEvent 11 = .ok (.iastore, 1) := by decide +kernel
theorem dX1_moveEvent_12 : decode cX1_moveEvent 12 = .ok (.aload_n 0, 1) := by decide +kernel
theorem dX1_moveEvent_13 : decode cX1_moveEvent 13 = .ok (.getfield 15, 3) := by decide +kernel
theorem dX1_moveEvent_16 : decode cX1_moveEvent 16 = .ok (.iload_n 2, 1) := by decide +kernel
theorem dX1_moveEvent_17 : decode cX1_moveEvent 17 = .ok (.aload_n 0, 1) := by decide +kernel
theorem dX1_moveEvent_18 : decode cX1_moveEvent 18 = .ok (.getfield 15, 3) := by decide +kernel
theorem dX1_moveEvent_21 : decode cX1_moveEvent 21 = .ok (.iload_n 1, 1) := by decide +kernel
theorem dX1_moveEvent_22 : decode cX1_moveEvent 22 = .ok (.iaload, 1) := by decide +kernel
theorem dX1_moveEvent_23 : decode cX1_moveEvent 23 = .ok (.iastore, 1) := by decide +kernel
theorem dX1_moveEvent_24 : decode cX1_moveEvent 24 = .ok (.aload_n 0, 1) := by decide +kernel
theorem dX1_moveEvent_25 : decode cX1_moveEvent 25 = .ok (.getfield 18, 3) := by decide +kernel
theorem dX1_moveEvent_28 : decode cX1_moveEvent 28 = .ok (.iload_n 2, 1) := by decide +kernel
theorem dX1_moveEvent_29 : decode cX1_moveEvent 29 = .ok (.aload_n 0, 1) := by decide +kernel
theorem dX1_moveEvent_30 : decode cX1_moveEvent 30 = .ok (.getfield 18, 3) := by decide +kernel
theorem dX1_moveEvent_33 : decode cX1_moveEvent 33 = .ok (.iload_n 1, 1) := by decide +kernel
theorem dX1_moveEvent_34 : decode cX1_moveEvent 34 = .ok (.iaload, 1) := by decide +kernel
theorem dX1_moveEvent_35 : decode cX1_moveEvent 35 = .ok (.iastore, 1) := by decide +kernel
theorem dX1_moveEvent_36 : decode cX1_moveEvent 36 = .ok (.aload_n 0, 1) := by decide +kernel
theorem dX1_moveEvent_37 : decode cX1_moveEvent 37 = .ok (.getfield 21, 3) := by decide +kernel
theorem dX1_moveEvent_40 : decode cX1_moveEvent 40 = .ok (.iload_n 2, 1) := by decide +kernel
theorem dX1_moveEvent_41 : decode cX1_moveEvent 41 = .ok (.aload_n 0, 1) := by decide +kernel
theorem dX1_moveEvent_42 : decode cX1_moveEvent 42 = .ok (.getfield 21, 3) := by decide +kernel
theorem dX1_moveEvent_45 : decode cX1_moveEvent 45 = .ok (.iload_n 1, 1) := by decide +kernel
theorem dX1_moveEvent_46 : decode cX1_moveEvent 46 = .ok (.iaload, 1) := by decide +kernel
theorem dX1_moveEvent_47 : decode cX1_moveEvent 47 = .ok (.iastore, 1) := by decide +kernel
theorem dX1_moveEvent_48 : decode cX1_moveEvent 48 = .ok (.return_, 1) := by decide +kernel
theorem dX2_init_0 : decode cX2_init 0 = .ok (.aload_n 0, 1) := by decide +kernel
theorem dX2_init_1 : decode cX2_init 1 = .ok (.invokespecial 3, 3) := by decide +kernel
theorem dX2_init_4 : decode cX2_init 4 = .ok (.aload_n 0, 1) := by decide +kernel
theorem dX2_init_5 : decode cX2_init 5 = .ok (.bipush 8, 2) := by decide +kernel
theorem dX2_init_7 : decode cX2_init 7 = .ok (.putfield 9, 3) := by decide +kernel
theorem dX2_init_10 : decode cX2_init 10 = .ok (.aload_n 0, 1) := by decide +kernel
theorem dX2_init_11 : decode cX2_init 11 = .ok (.bipush 8, 2) := by decide +kernel
theorem dX2_init_13 : decode cX2_init 13 = .ok (.putfield 15, 3) := by decide +kernel
theorem dX2_init_16 : decode cX2_init 16 = .ok (.return_, 1) := by decide +kernel
theorem dX2_startAnew_0 : decode cX2_startAnew 0 = .ok (.aload_n 0, 1) := by decide +kernel
theorem dX2_startAnew_1 : decode cX2_startAnew 1 = .ok (.iconst 0, 1) := by decide +kernel
theorem dX2_startAnew_2 : decode cX2_startAnew 2 = .ok (.putfield 18, 3) := by decide +kernel
theorem dX2_startAnew_5 : decode cX2_startAnew 5 = .ok (.aload_n 0, 1) := by decide +kernel
theorem dX2_startAnew_6 : decode cX2_startAnew 6 = .ok (.iconst 0, 1) := by decide +kernel
theorem dX2_startAnew_7 : decode cX2_startAnew 7 = .ok (.putfield 21, 3) := by decide +kernel
theorem dX2_startAnew_10 : decode cX2_startAnew 10 = .ok (.aload_n 0, 1) := by decide +kernel
theorem dX2_startAnew_11 : decode cX2_startAnew 11 = .ok (.iconst 0, 1) := by decide +kernel
theorem dX2_startAnew_12 : decode cX2_startAnew 12 = .ok (.putfield 24, 3) := by decide +kernel
theorem dX2_startAnew_15 : decode cX2_startAnew 15 = .ok (.aload_n 0, 1) := by decide +kernel
theorem dX2_startAnew_16 : decode cX2_startAnew 16 = .ok (.bipush 8, 2) := by decide +kernel
theorem dX2_startAnew_18 : decode cX2_startAnew 18 = .ok (.putfield 9, 3) := by decide +kernel
theorem dX2_startAnew_21 : decode cX2_startAnew 21 = .ok (.aload_n 0, 1) := by decide +kernel
theorem dX2_startAnew_22 : decode cX2_startAnew 22 = .ok (.bipush 8, 2) := by decide +kernel
theorem dX2_startAnew_24 : decode cX2_startAnew 24 = .ok (.putfield 15, 3) := by decide +kernel
theorem dX2_startAnew_27 : decode cX2_startAnew 27 = .ok (.aload_n 0, 1) := by decide +kernel
theorem dX2_startAnew_28 : decode cX2_startAnew 28 = .ok (.iconst 0, 1) := by decide +kernel
theorem dX2_startAnew_29 : decode cX2_startAnew 29 = .ok (.putfield 27, 3) := by decide +kernel
theorem dX2_startAnew_32 : decode cX2_startAnew 32 = .ok (.return_, 1) := by decide +kernel
theorem dX2_copyFrom_0 : decode cX2_copyFrom 0 = .ok (.aload_n 0, 1) := by decide +kernel
theorem dX2_copyFrom_1 : decode cX2_copyFrom 1 = .ok (.aload_n 1, 1) := by decide +kernel
theorem dX2_copyFrom_2 : decode cX2_copyFrom 2 = .ok (.getfield 18, 3) := by decide +kernel
theorem dX2_copyFrom_5 : decode cX2_copyFrom 5 = .ok (.putfield 18, 3) := by decide +kernel
theorem dX2_copyFrom_8 : decode cX2_copyFrom 8 = .ok (.aload_n 0, 1) := by decide +kernel
theorem dX2_copyFrom_9 : decode cX2_copyFrom 9 = .ok (.aload_n 1, 1) := by decide +kernel
theorem dX2_copyFrom_10 : decode cX2_copyFrom 10 = .ok (.getfield 21, 3) := by decide +kernel
theorem dX2_copyFrom_13 : decode cX2_copyFrom 13 = .ok (.putfield 21, 3) := by decide +kernel
theorem dX2_copyFrom_16 : decode cX2_copyFrom 16 = .ok (.aload_n 0, 1) := by decide +kernel
theorem dX2_copyFrom_17 : decode cX2_copyFrom 17 = .ok (.aload_n 1, 1) := by decide +kernel
theorem dX2_copyFrom_18 : decode cX2_copyFrom 18 = .ok (.getfield 24, 3) := by decide +kernel
theorem dX2_copyFrom_21 : decode cX2_copyFrom 21 = .ok (.putfield 24, 3) := by decide +kernel
theorem dX2_copyFrom_24 : decode cX2_copyFrom 24 = .ok (.aload_n 0, 1) := by decide +kernel
theorem dX2_copyFrom_25 : decode cX2_copyFrom 25 = .ok (.aload_n 1, 1) := by decide +kernel
theorem dX2_copyFrom_26 : decode cX2_copyFrom 26 = .ok (.getfield 9, 3) := by decide +kernel
theorem dX2_copyFrom_29 : decode cX2_copyFrom 29 = .ok (.putfield 9, 3) := by decide +kernel
theorem dX2_copyFrom_32 : decode cX2_copyFrom 32 = .ok (.aload_n 0, 1) := by decide +kernel
theorem dX2_copyFrom_33 : decode cX2_copyFrom 33 = .ok (.aload_n 1, 1) := by decide +kernel
theorem dX2_copyFrom_34 : decode cX2_copyFrom 34 = .ok (.getfield 15, 3) := by decide +kernel
theorem dX2_copyFrom_37 : decode cX2_copyFrom 37 = .ok (.putfield 15, 3) := by decide +kernel
theorem dX2_copyFrom_40 : decode cX2_copyFrom 40 = .ok (.aload_n 0, 1) := by decide +kernel
theorem dX2_copyFrom_41 : decode cX2_copyFrom 41 = .ok (.aload_n 1, 1) := by decide +kernel
theorem dX2_copyFrom_42 : decode cX2_copyFrom 42 = .ok (.getfield 27, 3) := by decide +kernel
theorem dX2_copyFrom_45 : decode cX2_copyFrom 45 = .ok (.putfield 27, 3) := by decide +kernel
theorem dX2_copyFrom_48 : decode cX2_copyFrom 48 = .ok (.return_, 1) := by decide +kernel
theorem dX2_strength_0 : decode cX2_strength 0 = .ok (.aload_n 0, 1) := by decide +kernel
theorem dX2_strength_1 : decode cX2_strength 1 = .ok (.getfield 18, 3) := by decide +kernel
theorem dX2_strength_4 : decode cX2_strength 4 = .ok (.ifCond .ne 7, 3) := by decide +kernel
theorem dX2_strength_7 : decode cX2_strength 7 = .ok (.iconst 0, 1) := by decide +kernel
theorem dX2_strength_8 : decode cX2_strength 8 = .ok (.goto 12, 3) := by decide +kernel
theorem dX2_strength_11 : decode cX2_strength 11 = .ok (.iconst 1, 1) := by decide +kernel
theorem dX2_strength_12 : decode cX2_strength 12 = .ok (.aload_n 0, 1) := by decide +kernel
theorem dX2_strength_13 : decode cX2_strength 13 = .ok (.getfield 18, 3) := by decide +kernel
theorem dX2_strength_16 : decode cX2_strength 16 = .ok (.bipush 25, 2) := by decide +kernel
theorem dX2_strength_18 : decode cX2_strength 18 = .ok (.idiv, 1) := by decide +kernel
theorem dX2_strength_19 : decode cX2_strength 19 = .ok (.iadd, 1) := by decide +kernel
theorem dX2_strength_20 : decode cX2_strength 20 = .ok (.ireturn, 1) := by decide +kernel
theorem dX2_draft_0 : decode cX2_draft 0 = .ok (.aload_n 0, 1) := by decide +kernel
theorem dX2_draft_1 : decode cX2_draft 1 = .ok (.getfield 21, 3) := by decide +kernel
theorem dX2_draft_4 : decode cX2_draft 4 = .ok (.aload_n 0, 1) := by decide +kernel
theorem dX2_draft_5 : decode cX2_draft 5 = .ok (.getfield 9, 3) := by decide +kernel
theorem dX2_draft_8 : decode cX2_draft 8 = .ok (.imul, 1) := by decide +kernel
theorem dX2_draft_9 : decode cX2_draft 9 = .ok (.bipush 8, 2) := by decide +kernel
theorem dX2_draft_11 : decode cX2_draft 11 = .ok (.idiv, 1) := by decide +kernel
theorem dX2_draft_12 : decode cX2_draft 12 = .ok (.aload_n 0, 1) := by decide +kernel
theorem dX2_draft_13 : decode cX2_draft 13 = .ok (.getfield 24, 3) := by decide +kernel
theorem dX2_draft_16 : decode cX2_draft 16 = .ok (.isub, 1) := by decide +kernel
theorem dX2_draft_17 : decode cX2_draft 17 = .ok (.istore_n 1, 1) := by decide +kernel
theorem dX2_draft_18 : decode cX2_draft 18 = .ok (.iload_n 1, 1) := by decide +kernel
theorem dX2_draft_19 : decode cX2_draft 19 = .ok (.ifCond .ge 7, 3) := by decide +kernel
theorem dX2_draft_22 : decode cX2_draft 22 = .ok (.iconst 0, 1) := by decide +kernel
theorem dX2_draft_23 : decode cX2_draft 23 = .ok (.goto 4, 3) := by decide +kernel
theorem dX2_draft_26 : decode cX2_draft 26 = .ok (.iload_n 1, 1) := by decide +kernel
theorem dX2_draft_27 : decode cX2_draft 27 = .ok (.ireturn, 1) := by decide +kernel
theorem dX2_feed_0 : decode cX2_feed 0 = .ok (.aload_n 0, 1) := by decide +kernel
theorem dX2_feed_1 : decode cX2_feed 1 = .ok (.aload_n 0, 1) := by decide +kernel
theorem dX2_feed_2 : decode cX2_feed 2 = .ok (.getfield 18, 3) := by decide +kernel
theorem dX2_feed_5 : decode cX2_feed 5 = .ok (.iload_n 1, 1) := by decide +kernel
theorem dX2_feed_6 : decode cX2_feed 6 = .ok (.iadd, 1) := by decide +kernel
theorem dX2_feed_7 : decode cX2_feed 7 = .ok (.sipush 200, 3) := by decide +kernel
theorem dX2_feed_10 : decode cX2_feed 10 = .ok (.invokestatic 31, 3) := by decide +kernel
theorem dX2_feed_13 : decode cX2_feed 13 = .ok (.putfield 18, 3) := by decide +kernel
theorem dX2_feed_16 : decode cX2_feed 16 = .ok (.return_, 1) := by decide +kernel
theorem dX2_burn_0 : decode cX2_burn 0 = .ok (.iload_n 1, 1) := by decide +kernel
theorem dX2_burn_1 : decode cX2_burn 1 = .ok (.ifCond .le 24, 3) := by decide +kernel
theorem dX2_burn_4 : decode cX2_burn 4 = .ok (.aload_n 0, 1) := by decide +kernel
theorem dX2_burn_5 : decode cX2_burn 5 = .ok (.aload_n 0, 1) := by decide +kernel
theorem dX2_burn_6 : decode cX2_burn 6 = .ok (.getfield 18, 3) := by decide +kernel
theorem dX2_burn_9 : decode cX2_burn 9 = .ok (.iconst 1, 1) := by decide +kernel
theorem dX2_burn_10 : decode cX2_burn 10 = .ok (.aload_n 0, 1) := by decide +kernel
theorem dX2_burn_11 : decode cX2_burn 11 = .ok (.getfield 9, 3) := by decide +kernel
theorem dX2_burn_14 : decode cX2_burn 14 = .ok (.iconst 2, 1) := by decide +kernel
theorem dX2_burn_15 : decode cX2_burn 15 = .ok (.idiv, 1) := by decide +kernel
theorem dX2_burn_16 : decode cX2_burn 16 = .ok (.iadd, 1) := by decide +kernel
theorem dX2_burn_17 : decode cX2_burn 17 = .ok (.isub, 1) := by decide +kernel
theorem dX2_burn_18 : decode cX2_burn 18 = .ok (.iconst 0, 1) := by decide +kernel
theorem dX2_burn_19 : decode cX2_burn 19 = .ok (.invokestatic 37, 3) := by decide +kernel
theorem dX2_burn_22 : decode cX2_burn 22 = .ok (.putfield 18, 3) := by decide +kernel
theorem dX2_burn_25 : decode cX2_burn 25 = .ok (.aload_n 0, 1) := by decide +kernel
theorem dX2_burn_26 : decode cX2_burn 26 = .ok (.aload_n 0, 1) := by decide +kernel
theorem dX2_burn_27 : decode cX2_burn 27 = .ok (.getfield 21, 3) := by decide +kernel
theorem dX2_burn_30 : decode cX2_burn 30 = .ok (.bipush 6, 2) := by decide +kernel
theorem dX2_burn_32 : decode cX2_burn 32 = .ok (.iload_n 1, 1) := by decide +kernel
theorem dX2_burn_33 : decode cX2_burn 33 = .ok (.imul, 1) := by decide +kernel
theorem dX2_burn_34 : decode cX2_burn 34 = .ok (.iadd, 1) := by decide +kernel
theorem dX2_burn_35 : decode cX2_burn 35 = .ok (.aload_n 0, 1) := by decide +kernel
theorem dX2_burn_36 : decode cX2_burn 36 = .ok (.getfield 21, 3) := by decide +kernel
theorem dX2_burn_39 : decode cX2_burn 39 = .ok (.bipush 8, 2) := by decide +kernel
theorem dX2_burn_41 : decode cX2_burn 41 = .ok (.idiv, 1) := by decide +kernel
theorem dX2_burn_42 : decode cX2_burn 42 = .ok (.isub, 1) := by decide +kernel
theorem dX2_burn_43 : decode cX2_burn 43 = .ok (.sipush 999, 3) := by decide +kernel
theorem dX2_burn_46 : decode cX2_burn 46 = .ok (.invokestatic 31, 3) := by decide +kernel
theorem dX2_burn_49 : decode cX2_burn 49 = .ok (.putfield 21, 3) := by decide +kernel
theorem dX2_burn_52 : decode cX2_burn 52 = .ok (.return_, 1) := by decide +kernel
theorem dX2_moveDamper_0 : decode cX2_moveDamper 0 = .ok (.aload_n 0, 1) := by decide +kernel
theorem dX2_moveDamper_1 : decode cX2_moveDamper 1 = .ok (.getfield 27, 3) := by decide +kernel
theorem dX2_moveDamper_4 : decode cX2_moveDamper 4 = .ok (.ifCond .ne 14, 3) := by decide +kernel
theorem dX2_moveDamper_7 : decode cX2_moveDamper 7 = .ok (.aload_n 0, 1) := by decide +kernel
theorem dX2_moveDamper_8 : decode cX2_moveDamper 8 = .ok (.getfield 9, 3) := by decide +kernel
theorem dX2_moveDamper_11 : decode cX2_moveDamper 11 = .ok (.aload_n 0, 1) := by decide +kernel
theorem dX2_moveDamper_12 : decode cX2_moveDamper 12 = .ok (.getfield 15, 3) := by decide +kernel
theorem dX2_moveDamper_15 : decode cX2_moveDamper 15 = .ok (.if_icmp .ne 5, 3) := by decide +kernel
theorem dX2_moveDamper_18 : decode cX2_moveDamper 18 = .ok (.iconst 0, 1) := by decide +kernel
theorem dX2_moveDamper_19 : decode cX2_moveDamper 19 = .ok (.ireturn, 1) := by decide +kernel
theorem dX2_moveDamper_20 : decode cX2_moveDamper 20 = .ok (.aload_n 0, 1) := by decide +kernel
theorem dX2_moveDamper_21 : decode cX2_moveDamper 21 = .ok (.dup, 1) := by decide +kernel
theorem dX2_moveDamper_22 : decode cX2_moveDamper 22 = .ok (.getfield 9, 3) := by decide +kernel
theorem dX2_moveDamper_25 : decode cX2_moveDamper 25 = .ok (.aload_n 0, 1) := by decide +kernel
theorem dX2_moveDamper_26 : decode cX2_moveDamper 26 = .ok (.getfield 9, 3) := by decide +kernel
theorem dX2_moveDamper_29 : decode cX2_moveDamper 29 = .ok (.aload_n 0, 1) := by decide +kernel
theorem dX2_moveDamper_30 : decode cX2_moveDamper 30 = .ok (.getfield 15, 3) := by decide +kernel
theorem dX2_moveDamper_33 : decode cX2_moveDamper 33 = .ok (.if_icmp .ge 7, 3) := by decide +kernel
theorem dX2_moveDamper_36 : decode cX2_moveDamper 36 = .ok (.iconst 1, 1) := by decide +kernel
theorem dX2_moveDamper_37 : decode cX2_moveDamper 37 = .ok (.goto 4, 3) := by decide +kernel
theorem dX2_moveDamper_40 : decode cX2_moveDamper 40 = .ok (.iconst (-1), 1) := by decide +kernel
theorem dX2_moveDamper_41 : decode cX2_moveDamper 41 = .ok (.iadd, 1) := by decide +kernel
theorem dX2_moveDamper_42 : decode cX2_moveDamper 42 = .ok (.putfield 9, 3) := by decide +kernel
theorem dX2_moveDamper_45 : decode cX2_moveDamper 45 = .ok (.iconst 1, 1) := by decide +kernel
theorem dX2_moveDamper_46 : decode cX2_moveDamper 46 = .ok (.ireturn, 1) := by decide +kernel
theorem dX3_init_0 : decode cX3_init 0 = .ok (.aload_n 0, 1) := by decide +kernel
theorem dX3_init_1 : decode cX3_init 1 = .ok (.invokespecial 3, 3) := by decide +kernel
theorem dX3_init_4 : decode cX3_init 4 = .ok (.aload_n 0, 1) := by decide +kernel
theorem dX3_init_5 : decode cX3_init 5 = .ok (.iconst 2, 1) := by decide +kernel
theorem dX3_init_6 : decode cX3_init 6 = .ok (.putfield 9, 3) := by decide +kernel
theorem dX3_init_9 : decode cX3_init 9 = .ok (.aload_n 0, 1) := by decide +kernel
theorem dX3_init_10 : decode cX3_init 10 = .ok (.iconst 4, 1) := by decide +kernel
theorem dX3_init_11 : decode cX3_init 11 = .ok (.newarray .int, 2) := by decide +kernel
theorem dX3_init_13 : decode cX3_init 13 = .ok (.putfield 15, 3) := by decide +kernel
theorem dX3_init_16 : decode cX3_init 16 = .ok (.aload_n 0, 1) := by decide +kernel
theorem dX3_init_17 : decode cX3_init 17 = .ok (.iconst 4, 1) := by decide +kernel
theorem dX3_init_18 : decode cX3_init 18 = .ok (.newarray .int, 2) := by decide +kernel
theorem dX3_init_20 : decode cX3_init 20 = .ok (.putfield 19, 3) := by decide +kernel
theorem dX3_init_23 : decode cX3_init 23 = .ok (.return_, 1) := by decide +kernel
theorem dX3_startAnew_0 : decode cX3_startAnew 0 = .ok (.aload_n 0, 1) := by decide +kernel
theorem dX3_startAnew_1 : decode cX3_startAnew 1 = .ok (.iload_n 1, 1) := by decide +kernel
theorem dX3_startAnew_2 : decode cX3_startAnew 2 = .ok (.putfield 9, 3) := by decide +kernel
theorem dX3_startAnew_5 : decode cX3_startAnew 5 = .ok (.aload_n 0, 1) := by decide +kernel
theorem dX3_startAnew_6 : decode cX3_startAnew 6 = .ok (.iconst 0, 1) := by decide +kernel
theorem dX3_startAnew_7 : decode cX3_startAnew 7 = .ok (.putfield 22, 3) := by decide +kernel
theorem dX3_startAnew_10 : decode cX3_startAnew 10 = .ok (.iconst 0, 1) := by decide +kernel
theorem dX3_startAnew_11 : decode cX3_startAnew 11 = .ok (.istore_n 2, 1) := by decide +kernel
theorem dX3_startAnew_12 : decode cX3_startAnew 12 = .ok (.iload_n 2, 1) := by decide +kernel
theorem dX3_startAnew_13 : decode cX3_startAnew 13 = .ok (.aload_n 0, 1) := by decide +kernel
theorem dX3_startAnew_14 : decode cX3_startAnew 14 = .ok (.getfield 15, 3) := by decide +kernel
theorem dX3_startAnew_17 : decode cX3_startAnew 17 = .ok (.arraylength, 1) := by decide +kernel
theorem dX3_startAnew_18 : decode cX3_startAnew 18 = .ok (.if_icmp .ge 16, 3) := by decide +kernel
theorem dX3_startAnew_21 : decode cX3_startAnew 21 = .ok (.aload_n 0, 1) := by decide +kernel
theorem dX3_startAnew_22 : decode cX3_startAnew 22 = .ok (.getfield 15, 3) := by decide +kernel
theorem dX3_startAnew_25 : decode cX3_startAnew 25 = .ok (.iload_n 2, 1) := by decide +kernel
theorem dX3_startAnew_26 : decode cX3_startAnew 26 = .ok (.iconst 0, 1) := by decide +kernel
theorem dX3_startAnew_27 : decode cX3_startAnew 27 = .ok (.iastore, 1) := by decide +kernel
theorem dX3_startAnew_28 : decode cX3_startAnew 28 = .ok (.iinc 2 1, 3) := by decide +kernel
theorem dX3_startAnew_31 : decode cX3_startAnew 31 = .ok (.goto (-19), 3) := by decide +kernel
theorem dX3_startAnew_34 : decode cX3_startAnew 34 = .ok (.return_, 1) := by decide +kernel
set_option maxRecDepth 20000 in
theorem ggX3_copyFrom_X8_copyRow : GoodIn wsX3_copyFrom wsX8_copyRow := goodIn_r _ [6, 7, 8, 9, 10, 11, 12, 13, 14] (by decide +kernel) (by decide +kernel)
set_option maxRecDepth 20000 in
theorem gX3_copyFrom_X8_copyRow_n25 : GoodIn wsX3_copyFrom (wsX8_copyRow) := ggX3_copyFrom_X8_copyRow
theorem dX3_copyFrom_0 : decode cX3_copyFrom 0 = .ok (.aload_n 0, 1) := by decide +kernel
theorem dX3_copyFrom_1 : decode cX3_copyFrom 1 = .ok (.aload_n 1, 1) := by decide +kernel
theorem dX3_copyFrom_2 : decode cX3_copyFrom 2 = .ok (.getfield 9, 3) := by decide +kernel
theorem dX3_copyFrom_5 : decode cX3_copyFrom 5 = .ok (.putfield 9, 3) := by decide +kernel
theorem dX3_copyFrom_8 : decode cX3_copyFrom 8 = .ok (.aload_n 0, 1) := by decide +kernel
theorem dX3_copyFrom_9 : decode cX3_copyFrom 9 = .ok (.aload_n 1, 1) := by decide +kernel
theorem dX3_copyFrom_10 : decode cX3_copyFrom 10 = .ok (.getfield 22, 3) := by decide +kernel
theorem dX3_copyFrom_13 : decode cX3_copyFrom 13 = .ok (.putfield 22, 3) := by decide +kernel
theorem dX3_copyFrom_16 : decode cX3_copyFrom 16 = .ok (.aload_n 1, 1) := by decide +kernel
theorem dX3_copyFrom_17 : decode cX3_copyFrom 17 = .ok (.getfield 15, 3) := by decide +kernel
theorem dX3_copyFrom_20 : decode cX3_copyFrom 20 = .ok (.aload_n 0, 1) := by decide +kernel
theorem dX3_copyFrom_21 : decode cX3_copyFrom 21 = .ok (.getfield 15, 3) := by decide +kernel
theorem dX3_copyFrom_24 : decode cX3_copyFrom 24 = .ok (.invokestatic 25, 3) := by decide +kernel
theorem dX3_copyFrom_27 : decode cX3_copyFrom 27 = .ok (.return_, 1) := by decide +kernel
theorem dX3_isRoom_0 : decode cX3_isRoom 0 = .ok (.iload_n 1, 1) := by decide +kernel
theorem dX3_isRoom_1 : decode cX3_isRoom 1 = .ok (.ifCond .lt 15, 3) := by decide +kernel
theorem dX3_isRoom_4 : decode cX3_isRoom 4 = .ok (.iload_n 1, 1) := by decide +kernel
theorem dX3_isRoom_5 : decode cX3_isRoom 5 = .ok (.aload_n 0, 1) := by decide +kernel
theorem dX3_isRoom_6 : decode cX3_isRoom 6 = .ok (.getfield 9, 3) := by decide +kernel
theorem dX3_isRoom_9 : decode cX3_isRoom 9 = .ok (.if_icmp .ge 7, 3) := by decide +kernel
theorem dX3_isRoom_12 : decode cX3_isRoom 12 = .ok (.iconst 1, 1) := by decide +kernel
theorem dX3_isRoom_13 : decode cX3_isRoom 13 = .ok (.goto 4, 3) := by decide +kernel
theorem dX3_isRoom_16 : decode cX3_isRoom 16 = .ok (.iconst 0, 1) := by decide +kernel
theorem dX3_isRoom_17 : decode cX3_isRoom 17 = .ok (.ireturn, 1) := by decide +kernel
theorem dX3_isPlace_0 : decode cX3_isPlace 0 = .ok (.iload_n 1, 1) := by decide +kernel
theorem dX3_isPlace_1 : decode cX3_isPlace 1 = .ok (.ifCond .lt 15, 3) := by decide +kernel
theorem dX3_isPlace_4 : decode cX3_isPlace 4 = .ok (.iload_n 1, 1) := by decide +kernel
theorem dX3_isPlace_5 : decode cX3_isPlace 5 = .ok (.aload_n 0, 1) := by decide +kernel
theorem dX3_isPlace_6 : decode cX3_isPlace 6 = .ok (.getfield 9, 3) := by decide +kernel
theorem dX3_isPlace_9 : decode cX3_isPlace 9 = .ok (.if_icmp .gt 7, 3) := by decide +kernel
theorem dX3_isPlace_12 : decode cX3_isPlace 12 = .ok (.iconst 1, 1) := by decide +kernel
theorem dX3_isPlace_13 : decode cX3_isPlace 13 = .ok (.goto 4, 3) := by decide +kernel
theorem dX3_isPlace_16 : decode cX3_isPlace 16 = .ok (.iconst 0, 1) := by decide +kernel
theorem dX3_isPlace_17 : decode cX3_isPlace 17 = .ok (.ireturn, 1) := by decide +kernel
theorem dX3_smokeIn_0 : decode cX3_smokeIn 0 = .ok (.iload_n 1, 1) := by decide +kernel
theorem dX3_smokeIn_1 : decode cX3_smokeIn 1 = .ok (.ifCond .lt 20, 3) := by decide +kernel
theorem dX3_smokeIn_4 : decode cX3_smokeIn 4 = .ok (.iload_n 1, 1) := by decide +kernel
theorem dX3_smokeIn_5 : decode cX3_smokeIn 5 = .ok (.aload_n 0, 1) := by decide +kernel
theorem dX3_smokeIn_6 : decode cX3_smokeIn 6 = .ok (.getfield 9, 3) := by decide +kernel
theorem dX3_smokeIn_9 : decode cX3_smokeIn 9 = .ok (.if_icmp .ge 12, 3) := by decide +kernel
theorem dX3_smokeIn_12 : decode cX3_smokeIn 12 = .ok (.aload_n 0, 1) := by decide +kernel
theorem dX3_smokeIn_13 : decode cX3_smokeIn 13 = .ok (.getfield 15, 3) := by decide +kernel
theorem dX3_smokeIn_16 : decode cX3_smokeIn 16 = .ok (.iload_n 1, 1) := by decide +kernel
theorem dX3_smokeIn_17 : decode cX3_smokeIn 17 = .ok (.iaload, 1) := by decide +kernel
theorem dX3_smokeIn_18 : decode cX3_smokeIn 18 = .ok (.goto 4, 3) := by decide +kernel
theorem dX3_smokeIn_21 : decode cX3_smokeIn 21 = .ok (.iconst 0, 1) := by decide +kernel
theorem dX3_smokeIn_22 : decode cX3_smokeIn 22 = .ok (.ireturn, 1) := by decide +kernel
theorem dX3_doorBit_0 : decode cX3_doorBit 0 = .ok (.iconst 1, 1) := by decide +kernel
theorem dX3_doorBit_1 : decode cX3_doorBit 1 = .ok (.iload_n 0, 1) := by decide +kernel
theorem dX3_doorBit_2 : decode cX3_doorBit 2 = .ok (.iload_n 1, 1) := by decide +kernel
theorem dX3_doorBit_3 : decode cX3_doorBit 3 = .ok (.if_icmp .ge 11, 3) := by decide +kernel
theorem dX3_doorBit_6 : decode cX3_doorBit 6 = .ok (.iload_n 0, 1) := by decide +kernel
theorem dX3_doorBit_7 : decode cX3_doorBit 7 = .ok (.iconst 5, 1) := by decide +kernel
theorem dX3_doorBit_8 : decode cX3_doorBit 8 = .ok (.imul, 1) := by decide +kernel
theorem dX3_doorBit_9 : decode cX3_doorBit 9 = .ok (.iload_n 1, 1) := by decide +kernel
theorem dX3_doorBit_10 : decode cX3_doorBit 10 = .ok (.iadd, 1) := by decide +kernel
theorem dX3_doorBit_11 : decode cX3_doorBit 11 = .ok (.goto 8, 3) := by decide +kernel
theorem dX3_doorBit_14 : decode cX3_doorBit 14 = .ok (.iload_n 1, 1) := by decide +kernel
theorem dX3_doorBit_15 : decode cX3_doorBit 15 = .ok (.iconst 5, 1) := by decide +kernel
theorem dX3_doorBit_16 : decode cX3_doorBit 16 = .ok (.imul, 1) := by decide +kernel
theorem dX3_doorBit_17 : decode cX3_doorBit 17 = .ok (.iload_n 0, 1) := by decide +kernel
theorem dX3_doorBit_18 : decode cX3_doorBit 18 = .ok (.iadd, 1) := by decide +kernel
theorem dX3_doorBit_19 : decode cX3_doorBit 19 = .ok (.ishl, 1) := by decide +kernel
theorem dX3_doorBit_20 : decode cX3_doorBit 20 = .ok (.ireturn, 1) := by decide +kernel
set_option maxRecDepth 20000 in
theorem ggX3_hasOpenDoor_X3_doorBit : GoodIn wsX3_hasOpenDoor wsX3_doorBit := goodIn_r _ [5] (by decide +kernel) (by decide +kernel)
set_option maxRecDepth 20000 in
theorem gX3_hasOpenDoor_X3_doorBit : GoodIn wsX3_hasOpenDoor (va_wsS RX3 29 yX3_doorBit wsX3_doorBit) := goodIn_app (goodIn_of _ (by decide +kernel)) ggX3_hasOpenDoor_X3_doorBit
theorem dX3_hasOpenDoor_0 : decode cX3_hasOpenDoor 0 = .ok (.aload_n 0, 1) := by decide +kernel
theorem dX3_hasOpenDoor_1 : decode cX3_hasOpenDoor 1 = .ok (.getfield 22, 3) := by decide +kernel
theorem dX3_hasOpenDoor_4 : decode cX3_hasOpenDoor 4 = .ok (.iload_n 1, 1) := by decide +kernel
theorem dX3_hasOpenDoor_5 : decode cX3_hasOpenDoor 5 = .ok (.iload_n 2, 1) := by decide +kernel
theorem dX3_hasOpenDoor_6 : decode cX3_hasOpenDoor 6 = .ok (.invokestatic 29, 3) := by decide +kernel
theorem dX3_hasOpenDoor_9 : decode cX3_hasOpenDoor 9 = .ok (.iand, 1) := by decide +kernel
theorem dX3_hasOpenDoor_10 : decode cX3_hasOpenDoor 10 = .ok (.ifCond .eq 7, 3) := by decide +kernel
theorem dX3_hasOpenDoor_13 : decode cX3_hasOpenDoor 13 = .ok (.iconst 1, 1) := by decide +kernel
theorem dX3_hasOpenDoor_14 : decode cX3_hasOpenDoor 14 = .ok (.goto 4, 3) := by decide +kernel
theorem dX3_hasOpenDoor_17 : decode cX3_hasOpenDoor 17 = .ok (.iconst 0, 1) := by decide +kernel
theorem dX3_hasOpenDoor_18 : decode cX3_hasOpenDoor 18 = .ok (.ireturn, 1) := by decide +kernel
set_option maxRecDepth 20000 in
theorem ggX3_putDoor_X3_doorBit : GoodIn wsX3_putDoor wsX3_doorBit := goodIn_r _ [5] (by decide +kernel) (by decide +kernel)
set_option maxRecDepth 20000 in
theorem gX3_putDoor_X3_doorBit : GoodIn wsX3_putDoor (va_wsS RX3 29 yX3_doorBit wsX3_doorBit) := goodIn_app (goodIn_of _ (by decide +kernel)) ggX3_putDoor_X3_doorBit
theorem dX3_putDoor_0 : decode cX3_putDoor 0 = .ok (.iload_n 3, 1) := by decide +kernel
theorem dX3_putDoor_1 : decode cX3_putDoor 1 = .ok (.ifCond .eq 20, 3) := by decide +kernel
theorem dX3_putDoor_4 : decode cX3_putDoor 4 = .ok (.aload_n 0, 1) := by decide +kernel
theorem dX3_putDoor_5 : decode cX3_putDoor 5 = .ok (.dup, 1) := by decide +kernel
theorem dX3_putDoor_6 : decode cX3_putDoor 6 = .ok (.getfield 22, 3) := by decide +kernel
theorem dX3_putDoor_9 : decode cX3_putDoor 9 = .ok (.iload_n 1, 1) := by decide +kernel
theorem dX3_putDoor_10 : decode cX3_putDoor 10 = .ok (.iload_n 2, 1) := by decide +kernel
theorem dX3_putDoor_11 : decode cX3_putDoor 11 = .ok (.invokestatic 29, 3) := by decide +kernel
theorem dX3_putDoor_14 : decode cX3_putDoor 14 = .ok (.ior, 1) := by decide +kernel
theorem dX3_putDoor_15 : decode cX3_putDoor 15 = .ok (.putfield 22, 3) := by decide +kernel
theorem dX3_putDoor_18 : decode cX3_putDoor 18 = .ok (.goto 19, 3) := by decide +kernel
theorem dX3_putDoor_21 : decode cX3_putDoor 21 = .ok (.aload_n 0, 1) := by decide +kernel
theorem dX3_putDoor_22 : decode cX3_putDoor 22 = .ok (.dup, 1) := by decide +kernel
theorem dX3_putDoor_23 : decode cX3_putDoor 23 = .ok (.getfield 22, 3) := by decide +kernel
theorem dX3_putDoor_26 : decode cX3_putDoor 26 = .ok (.iload_n 1, 1) := by decide +kernel
theorem dX3_putDoor_27 : decode cX3_putDoor 27 = .ok (.iload_n 2, 1) := by decide +kernel
theorem dX3_putDoor_28 : decode cX3_putDoor 28 = .ok (.invokestatic 29, 3) := by decide +kernel
theorem dX3_putDoor_31 : decode cX3_putDoor 31 = .ok (.iconst (-1), 1) := by decide +kernel
theorem dX3_putDoor_32 : decode cX3_putDoor 32 = .ok (.ixor, 1) := by decide +kernel
theorem dX3_putDoor_33 : decode cX3_putDoor 33 = .ok (.iand, 1) := by decide +kernel
theorem dX3_putDoor_34 : decode cX3_putDoor 34 = .ok (.putfield 22, 3) := by decide +kernel
theorem dX3_putDoor_37 : decode cX3_putDoor 37 = .ok (.return_, 1) := by decide +kernel
set_option maxRecDepth 20000 in
theorem ggX3_turnDoor_X3_doorBit : GoodIn wsX3_turnDoor wsX3_doorBit := goodIn_r _ [5] (by decide +kernel) (by decide +kernel)
set_option maxRecDepth 20000 in
theorem gX3_turnDoor_X3_doorBit : GoodIn wsX3_turnDoor (va_wsS RX3 29 yX3_doorBit wsX3_doorBit) := goodIn_app (goodIn_of _ (by decide +kernel)) ggX3_turnDoor_X3_doorBit
theorem dX3_turnDoor_0 : decode cX3_turnDoor 0 = .ok (.aload_n 0, 1) := by decide +kernel
theorem dX3_turnDoor_1 : decode cX3_turnDoor 1 = .ok (.dup, 1) := by decide +kernel
theorem dX3_turnDoor_2 : decode cX3_turnDoor 2 = .ok (.getfield 22, 3) := by decide +kernel
theorem dX3_turnDoor_5 : decode cX3_turnDoor 5 = .ok (.iload_n 1, 1) := by decide +kernel
theorem dX3_turnDoor_6 : decode cX3_turnDoor 6 = .ok (.iload_n 2, 1) := by decide +kernel
theorem dX3_turnDoor_7 : decode cX3_turnDoor 7 = .ok (.invokestatic 29, 3) := by decide +kernel
theorem dX3_turnDoor_10 : decode cX3_turnDoor 10 = .ok (.ixor, 1) := by decide +kernel
theorem dX3_turnDoor_11 : decode cX3_turnDoor 11 = .ok (.putfield 22, 3) := by decide +kernel
theorem dX3_turnDoor_14 : decode cX3_turnDoor 14 = .ok (.return_, 1) := by decide +kernel
set_option maxRecDepth 20000 in
theorem ggX3_spread_X3_spreadFrom : GoodIn wsX3_spread wsX3_spreadFrom := goodIn_r _ [13, 1, 3, 2, 14, 15, 16, 12, 17, 18, 19, 20, 21, 22, 23, 24, 25] (by decide +kernel) (by decide +kernel)
set_option maxRecDepth 20000 in
theorem gX3_spread_X3_spreadFrom : GoodIn wsX3_spread (wsV RX3 33 RX3 yX3_spreadFrom wsX3_spreadFrom) := goodIn_app (goodIn_of _ (by decide +kernel)) ggX3_spread_X3_spreadFrom
set_option maxRecDepth 20000 in
theorem ggX3_spread_X3_hasOpenDoor : GoodIn wsX3_spread wsX3_hasOpenDoor := goodIn_r _ [17, 18, 19, 20, 12, 21, 22, 23, 24, 25] (by decide +kernel) (by decide +kernel)
set_option maxRecDepth 20000 in
theorem gX3_spread_X3_hasOpenDoor : GoodIn wsX3_spread (wsV RX3 37 RX3 yX3_hasOpenDoor wsX3_hasOpenDoor) := goodIn_app (goodIn_of _ (by decide +kernel)) ggX3_spread_X3_hasOpenDoor
theorem dX3_spread_0 : decode cX3_spread 0 = .ok (.iconst 0, 1) := by decide +kernel
theorem dX3_spread_1 : decode cX3_spread 1 = .ok (.istore_n 1, 1) := by decide +kernel
theorem dX3_spread_2 : decode cX3_spread 2 = .ok (.iload_n 1, 1) := by decide +kernel
theorem dX3_spread_3 : decode cX3_spread 3 = .ok (.aload_n 0, 1) := by decide +kernel
theorem dX3_spread_4 : decode cX3_spread 4 = .ok (.getfield 9, 3) := by decide +kernel
theorem dX3_spread_7 : decode cX3_spread 7 = .ok (.if_icmp .ge 16, 3) := by decide +kernel
theorem dX3_spread_10 : decode cX3_spread 10 = .ok (.aload_n 0, 1) := by decide +kernel
theorem dX3_spread_11 : decode cX3_spread 11 = .ok (.getfield 19, 3) := by decide +kernel
theorem dX3_spread_14 : decode cX3_spread 14 = .ok (.iload_n 1, 1) := by decide +kernel
theorem dX3_spread_15 : decode cX3_spread 15 = .ok (.iconst 0, 1) := by decide +kernel
theorem dX3_spread_16 : decode cX3_spread 16 = .ok (.iastore, 1) := by decide +kernel
theorem dX3_spread_17 : decode cX3_spread 17 = .ok (.iinc 1 1, 3) := by decide +kernel
theorem dX3_spread_20 : decode cX3_spread 20 = .ok (.goto (-18), 3) := by decide +kernel
theorem dX3_spread_23 : decode cX3_spread 23 = .ok (.iconst 0, 1) := by decide +kernel
theorem dX3_spread_24 : decode cX3_spread 24 = .ok (.istore_n 1, 1) := by decide +kernel
theorem dX3_spread_25 : decode cX3_spread 25 = .ok (.iconst 0, 1) := by decide +kernel
theorem dX3_spread_26 : decode cX3_spread 26 = .ok (.istore_n 2, 1) := by decide +kernel
theorem dX3_spread_27 : decode cX3_spread 27 = .ok (.iload_n 2, 1) := by decide +kernel
theorem dX3_spread_28 : decode cX3_spread 28 = .ok (.aload_n 0, 1) := by decide +kernel
theorem dX3_spread_29 : decode cX3_spread 29 = .ok (.getfield 9, 3) := by decide +kernel
theorem dX3_spread_32 : decode cX3_spread 32 = .ok (.if_icmp .ge 49, 3) := by decide +kernel
theorem dX3_spread_35 : decode cX3_spread 35 = .ok (.aload_n 0, 1) := by decide +kernel
theorem dX3_spread_36 : decode cX3_spread 36 = .ok (.iload_n 2, 1) := by decide +kernel
theorem dX3_spread_37 : decode cX3_spread 37 = .ok (.invokevirtual 33, 3) := by decide +kernel
theorem dX3_spread_40 : decode cX3_spread 40 = .ok (.aload_n 0, 1) := by decide +kernel
theorem dX3_spread_41 : decode cX3_spread 41 = .ok (.iload_n 2, 1) := by decide +kernel
theorem dX3_spread_42 : decode cX3_spread 42 = .ok (.aload_n 0, 1) := by decide +kernel
theorem dX3_spread_43 : decode cX3_spread 43 = .ok (.getfield 9, 3) := by decide +kernel
theorem dX3_spread_46 : decode cX3_spread 46 = .ok (.invokevirtual 37, 3) := by decide +kernel
theorem dX3_spread_49 : decode cX3_spread 49 = .ok (.ifCond .eq 26, 3) := by decide +kernel
theorem dX3_spread_52 : decode cX3_spread 52 = .ok (.aload_n 0, 1) := by decide +kernel
theorem dX3_spread_53 : decode cX3_spread 53 = .ok (.getfield 15, 3) := by decide +kernel
theorem dX3_spread_56 : decode cX3_spread 56 = .ok (.iload_n 2, 1) := by decide +kernel
theorem dX3_spread_57 : decode cX3_spread 57 = .ok (.iaload, 1) := by decide +kernel
theorem dX3_spread_58 : decode cX3_spread 58 = .ok (.iconst 4, 1) := by decide +kernel
theorem dX3_spread_59 : decode cX3_spread 59 = .ok (.idiv, 1) := by decide +kernel
theorem dX3_spread_60 : decode cX3_spread 60 = .ok (.istore_n 3, 1) := by decide +kernel
theorem dX3_spread_61 : decode cX3_spread 61 = .ok (.aload_n 0, 1) := by decide +kernel
theorem dX3_spread_62 : decode cX3_spread 62 = .ok (.getfield 19, 3) := by decide +kernel
theorem dX3_spread_65 : decode cX3_spread 65 = .ok (.iload_n 2, 1) := by decide +kernel
theorem dX3_spread_66 : decode cX3_spread 66 = .ok (.dup2, 1) := by decide +kernel
theorem dX3_spread_67 : decode cX3_spread 67 = .ok (.iaload, 1) := by decide +kernel
theorem dX3_spread_68 : decode cX3_spread 68 = .ok (.iload_n 3, 1) := by decide +kernel
theorem dX3_spread_69 : decode cX3_spread 69 = .ok (.isub, 1) := by decide +kernel
theorem dX3_spread_70 : decode cX3_spread 70 = .ok (.iastore, 1) := by decide +kernel
theorem dX3_spread_71 : decode cX3_spread 71 = .ok (.iload_n 1, 1) := by decide +kernel
theorem dX3_spread_72 : decode cX3_spread 72 = .ok (.iload_n 3, 1) := by decide +kernel
theorem dX3_spread_73 : decode cX3_spread 73 = .ok (.iadd, 1) := by decide +kernel
theorem dX3_spread_74 : decode cX3_spread 74 = .ok (.istore_n 1, 1) := by decide +kernel
theorem dX3_spread_75 : decode cX3_spread 75 = .ok (.iinc 2 1, 3) := by decide +kernel
theorem dX3_spread_78 : decode cX3_spread 78 = .ok (.goto (-51), 3) := by decide +kernel
theorem dX3_spread_81 : decode cX3_spread 81 = .ok (.iconst 0, 1) := by decide +kernel
theorem dX3_spread_82 : decode cX3_spread 82 = .ok (.istore_n 2, 1) := by decide +kernel
theorem dX3_spread_83 : decode cX3_spread 83 = .ok (.iload_n 2, 1) := by decide +kernel
theorem dX3_spread_84 : decode cX3_spread 84 = .ok (.aload_n 0, 1) := by decide +kernel
theorem dX3_spread_85 : decode cX3_spread 85 = .ok (.getfield 9, 3) := by decide +kernel
theorem dX3_spread_88 : decode cX3_spread 88 = .ok (.if_icmp .ge 33, 3) := by decide +kernel
theorem dX3_spread_91 : decode cX3_spread 91 = .ok (.aload_n 0, 1) := by decide +kernel
theorem dX3_spread_92 : decode cX3_spread 92 = .ok (.getfield 15, 3) := by decide +kernel
theorem dX3_spread_95 : decode cX3_spread 95 = .ok (.iload_n 2, 1) := by decide +kernel
theorem dX3_spread_96 : decode cX3_spread 96 = .ok (.aload_n 0, 1) := by decide +kernel
theorem dX3_spread_97 : decode cX3_spread 97 = .ok (.getfield 15, 3) := by decide +kernel
theorem dX3_spread_100 : decode cX3_spread 100 = .ok (.iload_n 2, 1) := by decide +kernel
theorem dX3_spread_101 : decode cX3_spread 101 = .ok (.iaload, 1) := by decide +kernel
theorem dX3_spread_102 : decode cX3_spread 102 = .ok (.aload_n 0, 1) := by decide +kernel
theorem dX3_spread_103 : decode cX3_spread 103 = .ok (.getfield 19, 3) := by decide +kernel
theorem dX3_spread_106 : decode cX3_spread 106 = .ok (.iload_n 2, 1) := by decide +kernel
theorem dX3_spread_107 : decode cX3_spread 107 = .ok (.iaload, 1) := by decide +kernel
theorem dX3_spread_108 : decode cX3_spread 108 = .ok (.iadd, 1) := by decide +kernel
theorem dX3_spread_109 : decode cX3_spread 109 = .ok (.ldc 41, 2) := by decide +kernel
theorem dX3_spread_111 : decode cX3_spread 111 = .ok (.invokestatic 42, 3) := by decide +kernel
theorem dX3_spread_114 : decode cX3_spread 114 = .ok (.iastore, 1) := by decide +kernel
theorem dX3_spread_115 : decode cX3_spread 115 = .ok (.iinc 2 1, 3) := by decide +kernel
theorem dX3_spread_118 : decode cX3_spread 118 = .ok (.goto (-35), 3) := by decide +kernel
theorem dX3_spread_121 : decode cX3_spread 121 = .ok (.iload_n 1, 1) := by decide +kernel
theorem dX3_spread_122 : decode cX3_spread 122 = .ok (.ireturn, 1) := by decide +kernel
set_option maxRecDepth 20000 in
theorem ggX3_spreadFrom_X3_hasOpenDoor : GoodIn wsX3_spreadFrom wsX3_hasOpenDoor := goodIn_r _ [8, 9, 10, 11, 7, 12, 13, 14, 15, 16] (by decide +kernel) (by decide +kernel)
set_option maxRecDepth 20000 in
theorem gX3_spreadFrom_X3_hasOpenDoor : GoodIn wsX3_spreadFrom (wsV RX3 37 RX3 yX3_hasOpenDoor wsX3_hasOpenDoor) := goodIn_app (goodIn_of _ (by decide +kernel)) ggX3_spreadFrom_X3_hasOpenDoor
theorem dX3_spreadFrom_0 : decode cX3_spreadFrom 0 = .ok (.iload_n 1, 1) := by decide +kernel
theorem dX3_spreadFrom_1 : decode cX3_spreadFrom 1 = .ok (.iconst 1, 1) := by decide +kernel
theorem dX3_spreadFrom_2 : decode cX3_spreadFrom 2 = .ok (.iadd, 1) := by decide +kernel
theorem dX3_spreadFrom_3 : decode cX3_spreadFrom 3 = .ok (.istore_n 2, 1) := by decide +kernel
theorem dX3_spreadFrom_4 : decode cX3_spreadFrom 4 = .ok (.iload_n 2, 1) := by decide +kernel
theorem dX3_spreadFrom_5 : decode cX3_spreadFrom 5 = .ok (.aload_n 0, 1) := by decide +kernel
theorem dX3_spreadFrom_6 : decode cX3_spreadFrom 6 = .ok (.getfield 9, 3) := by decide +kernel
theorem dX3_spreadFrom_9 : decode cX3_spreadFrom 9 = .ok (.if_icmp .ge 54, 3) := by decide +kernel
theorem dX3_spreadFrom_12 : decode cX3_spreadFrom 12 = .ok (.aload_n 0, 1) := by decide +kernel
theorem dX3_spreadFrom_13 : decode cX3_spreadFrom 13 = .ok (.iload_n 1, 1) := by decide +kernel
theorem dX3_spreadFrom_14 : decode cX3_spreadFrom 14 = .ok (.iload_n 2, 1) := by decide +kernel
theorem dX3_spreadFrom_15 : decode cX3_spreadFrom 15 = .ok (.invokevirtual 37, 3) := by decide +kernel
theorem dX3_spreadFrom_18 : decode cX3_spreadFrom 18 = .ok (.ifCond .eq 39, 3) := by decide +kernel
theorem dX3_spreadFrom_21 : decode cX3_spreadFrom 21 = .ok (.aload_n 0, 1) := by decide +kernel
theorem dX3_spreadFrom_22 : decode cX3_spreadFrom 22 = .ok (.getfield 15, 3) := by decide +kernel
theorem dX3_spreadFrom_25 : decode cX3_spreadFrom 25 = .ok (.iload_n 1, 1) := by decide +kernel
theorem dX3_spreadFrom_26 : decode cX3_spreadFrom 26 = .ok (.iaload, 1) := by decide +kernel
theorem dX3_spreadFrom_27 : decode cX3_spreadFrom 27 = .ok (.aload_n 0, 1) := by decide +kernel
theorem dX3_spreadFrom_28 : decode cX3_spreadFrom 28 = .ok (.getfield 15, 3) := by decide +kernel
theorem dX3_spreadFrom_31 : decode cX3_spreadFrom 31 = .ok (.iload_n 2, 1) := by decide +kernel
theorem dX3_spreadFrom_32 : decode cX3_spreadFrom 32 = .ok (.iaload, 1) := by decide +kernel
theorem dX3_spreadFrom_33 : decode cX3_spreadFrom 33 = .ok (.isub, 1) := by decide +kernel
theorem dX3_spreadFrom_34 : decode cX3_spreadFrom 34 = .ok (.iconst 4, 1) := by decide +kernel
theorem dX3_spreadFrom_35 : decode cX3_spreadFrom 35 = .ok (.idiv, 1) := by decide +kernel
theorem dX3_spreadFrom_36 : decode cX3_spreadFrom 36 = .ok (.istore_n 3, 1) := by decide +kernel
theorem dX3_spreadFrom_37 : decode cX3_spreadFrom 37 = .ok (.aload_n 0, 1) := by decide +kernel
theorem dX3_spreadFrom_38 : decode cX3_spreadFrom 38 = .ok (.getfield 19, 3) := by decide +kernel
theorem dX3_spreadFrom_41 : decode cX3_spreadFrom 41 = .ok (.iload_n 1, 1) := by decide +kernel
theorem dX3_spreadFrom_42 : decode cX3_spreadFrom 42 = .ok (.dup2, 1) := by decide +kernel
theorem dX3_spreadFrom_43 : decode cX3_spreadFrom 43 = .ok (.iaload, 1) := by decide +kernel
theorem dX3_spreadFrom_44 : decode cX3_spreadFrom 44 = .ok (.iload_n 3, 1) := by decide +kernel
theorem dX3_spreadFrom_45 : decode cX3_spreadFrom 45 = .ok (.isub, 1) := by decide +kernel
theorem dX3_spreadFrom_46 : decode cX3_spreadFrom 46 = .ok (.iastore, 1) := by decide +kernel
theorem dX3_spreadFrom_47 : decode cX3_spreadFrom 47 = .ok (.aload_n 0, 1) := by decide +kernel
theorem dX3_spreadFrom_48 : decode cX3_spreadFrom 48 = .ok (.getfield 19, 3) := by decide +kernel
theorem dX3_spreadFrom_51 : decode cX3_spreadFrom 51 = .ok (.iload_n 2, 1) := by decide +kernel
theorem dX3_spreadFrom_52 : decode cX3_spreadFrom 52 = .ok (.dup2, 1) := by decide +kernel
theorem dX3_spreadFrom_53 : decode cX3_spreadFrom 53 = .ok (.iaload, 1) := by decide +kernel
theorem dX3_spreadFrom_54 : decode cX3_spreadFrom 54 = .ok (.iload_n 3, 1) := by decide +kernel
theorem dX3_spreadFrom_55 : decode cX3_spreadFrom 55 = .ok (.iadd, 1) := by decide +kernel
theorem dX3_spreadFrom_56 : decode cX3_spreadFrom 56 = .ok (.iastore, 1) := by decide +kernel
theorem dX3_spreadFrom_57 : decode cX3_spreadFrom 57 = .ok (.iinc 2 1, 3) := by decide +kernel
theorem dX3_spreadFrom_60 : decode cX3_spreadFrom 60 = .ok (.goto (-56), 3) := by decide +kernel
theorem dX3_spreadFrom_63 : decode cX3_spreadFrom 63 = .ok (.return_, 1) := by decide +kernel
theorem dX5_init_0 : decode cX5_init 0 = .ok (.aload_n 0, 1) := by decide +kernel
theorem dX5_init_1 : decode cX5_init 1 = .ok (.invokespecial 3, 3) := by decide +kernel
theorem dX5_init_4 : decode cX5_init 4 = .ok (.aload_n 0, 1) := by decide +kernel
theorem dX5_init_5 : decode cX5_init 5 = .ok (.bipush 8, 2) := by decide +kernel
theorem dX5_init_7 : decode cX5_init 7 = .ok (.newarray .int, 2) := by decide +kernel
theorem dX5_init_9 : decode cX5_init 9 = .ok (.putfield 9, 3) := by decide +kernel
theorem dX5_init_12 : decode cX5_init 12 = .ok (.aload_n 0, 1) := by decide +kernel
theorem dX5_init_13 : decode cX5_init 13 = .ok (.bipush 8, 2) := by decide +kernel
theorem dX5_init_15 : decode cX5_init 15 = .ok (.newarray .int, 2) := by decide +kernel
theorem dX5_init_17 : decode cX5_init 17 = .ok (.putfield 15, 3) := by decide +kernel
theorem dX5_init_20 : decode cX5_init 20 = .ok (.aload_n 0, 1) := by decide +kernel
theorem dX5_init_21 : decode cX5_init 21 = .ok (.bipush 8, 2) := by decide +kernel
theorem dX5_init_23 : decode cX5_init 23 = .ok (.newarray .int, 2) := by decide +kernel
theorem dX5_init_25 : decode cX5_init 25 = .ok (.putfield 18, 3) := by decide +kernel
theorem dX5_init_28 : decode cX5_init 28 = .ok (.aload_n 0, 1) := by decide +kernel
theorem dX5_init_29 : decode cX5_init 29 = .ok (.bipush 8, 2) := by decide +kernel
theorem dX5_init_31 : decode cX5_init 31 = .ok (.newarray .int, 2) := by decide +kernel
theorem dX5_init_33 : decode cX5_init 33 = .ok (.putfield 21, 3) := by decide +kernel
theorem dX5_init_36 : decode cX5_init 36 = .ok (.return_, 1) := by decide +kernel
theorem dX5_clear_0 : decode cX5_clear 0 = .ok (.aload_n 0, 1) := by decide +kernel
theorem dX5_clear_1 : decode cX5_clear 1 = .ok (.iconst 0, 1) := by decide +kernel
theorem dX5_clear_2 : decode cX5_clear 2 = .ok (.putfield 24, 3) := by decide +kernel
theorem dX5_clear_5 : decode cX5_clear 5 = .ok (.return_, 1) := by decide +kernel
set_option maxRecDepth 20000 in
theorem ggX5_copyFrom_X8_copyRow : GoodIn wsX5_copyFrom wsX8_copyRow := goodIn_r _ [8, 9, 10, 11, 12, 13, 14, 15, 16] (by decide +kernel) (by decide +kernel)
set_option maxRecDepth 20000 in
theorem gX5_copyFrom_X8_copyRow_n28 : GoodIn wsX5_copyFrom (wsX8_copyRow) := ggX5_copyFrom_X8_copyRow
theorem dX5_copyFrom_0 : decode cX5_copyFrom 0 = .ok (.aload_n 0, 1) := by decide +kernel
theorem dX5_copyFrom_1 : decode cX5_copyFrom 1 = .ok (.aload_n 1, 1) := by decide +kernel
theorem dX5_copyFrom_2 : decode cX5_copyFrom 2 = .ok (.getfield 24, 3) := by decide +kernel
theorem dX5_copyFrom_5 : decode cX5_copyFrom 5 = .ok (.putfield 24, 3) := by decide +kernel
theorem dX5_copyFrom_8 : decode cX5_copyFrom 8 = .ok (.aload_n 1, 1) := by decide +kernel
theorem dX5_copyFrom_9 : decode cX5_copyFrom 9 = .ok (.getfield 9, 3) := by decide +kernel
theorem dX5_copyFrom_12 : decode cX5_copyFrom 12 = .ok (.aload_n 0, 1) := by decide +kernel
theorem dX5_copyFrom_13 : decode cX5_copyFrom 13 = .ok (.getfield 9, 3) := by decide +kernel
theorem dX5_copyFrom_16 : decode cX5_copyFrom 16 = .ok (.invokestatic 28, 3) := by decide +kernel
theorem dX5_copyFrom_19 : decode cX5_copyFrom 19 = .ok (.aload_n 1, 1) := by decide +kernel
theorem dX5_copyFrom_20 : decode cX5_copyFrom 20 = .ok (.getfield 15, 3) := by decide +kernel
theorem dX5_copyFrom_23 : decode cX5_copyFrom 23 = .ok (.aload_n 0, 1) := by decide +kernel
theorem dX5_copyFrom_24 : decode cX5_copyFrom 24 = .ok (.getfield 15, 3) := by decide +kernel
theorem dX5_copyFrom_27 : decode cX5_copyFrom 27 = .ok (.invokestatic 28, 3) := by decide +kernel
theorem dX5_copyFrom_30 : decode cX5_copyFrom 30 = .ok (.aload_n 1, 1) := by decide +kernel
theorem dX5_copyFrom_31 : decode cX5_copyFrom 31 = .ok (.getfield 18, 3) := by decide +kernel
theorem dX5_copyFrom_34 : decode cX5_copyFrom 34 = .ok (.aload_n 0, 1) := by decide +kernel
theorem dX5_copyFrom_35 : decode cX5_copyFrom 35 = .ok (.getfield 18, 3) := by decide +kernel
theorem dX5_copyFrom_38 : decode cX5_copyFrom 38 = .ok (.invokestatic 28, 3) := by decide +kernel
theorem dX5_copyFrom_41 : decode cX5_copyFrom 41 = .ok (.aload_n 1, 1) := by decide +kernel
theorem dX5_copyFrom_42 : decode cX5_copyFrom 42 = .ok (.getfield 21, 3) := by decide +kernel
theorem dX5_copyFrom_45 : decode cX5_copyFrom 45 = .ok (.aload_n 0, 1) := by decide +kernel
theorem dX5_copyFrom_46 : decode cX5_copyFrom 46 = .ok (.getfield 21, 3) := by decide +kernel
theorem dX5_copyFrom_49 : decode cX5_copyFrom 49 = .ok (.invokestatic 28, 3) := by decide +kernel
theorem dX5_copyFrom_52 : decode cX5_copyFrom 52 = .ok (.return_, 1) := by decide +kernel
theorem dX5_has_0 : decode cX5_has 0 = .ok (.iload_n 1, 1) := by decide +kernel
theorem dX5_has_1 : decode cX5_has 1 = .ok (.ifCond .lt 15, 3) := by decide +kernel
theorem dX5_has_4 : decode cX5_has 4 = .ok (.iload_n 1, 1) := by decide +kernel
theorem dX5_has_5 : decode cX5_has 5 = .ok (.aload_n 0, 1) := by decide +kernel
theorem dX5_has_6 : decode cX5_has 6 = .ok (.getfield 24, 3) := by decide +kernel
theorem dX5_has_9 : decode cX5_has 9 = .ok (.if_icmp .ge 7, 3) := by decide +kernel
theorem dX5_has_12 : decode cX5_has 12 = .ok (.iconst 1, 1) := by decide +kernel
theorem dX5_has_13 : decode cX5_has 13 = .ok (.goto 4, 3) := by decide +kernel
theorem dX5_has_16 : decode cX5_has 16 = .ok (.iconst 0, 1) := by decide +kernel
theorem dX5_has_17 : decode cX5_has 17 = .ok (.ireturn, 1) := by decide +kernel
theorem dX5_append_0 : decode cX5_append 0 = .ok (.aload_n 0, 1) := by decide +kernel
theorem dX5_append_1 : decode cX5_append 1 = .ok (.getfield 24, 3) := by decide +kernel
theorem dX5_append_4 : decode cX5_append 4 = .ok (.istore 5, 2) := by decide +kernel
theorem dX5_append_6 : decode cX5_append 6 = .ok (.iload 5, 2) := by decide +kernel
theorem dX5_append_8 : decode cX5_append 8 = .ok (.bipush 8, 2) := by decide +kernel
theorem dX5_append_10 : decode cX5_append 10 = .ok (.if_icmp .ge 44, 3) := by decide +kernel
theorem dX5_append_13 : decode cX5_append 13 = .ok (.aload_n 0, 1) := by decide +kernel
theorem dX5_append_14 : decode cX5_append 14 = .ok (.getfield 9, 3) := by decide +kernel
theorem dX5_append_17 : decode cX5_append 17 = .ok (.iload 5, 2) := by decide +kernel
theorem dX5_append_19 : decode cX5_append 19 = .ok (.iload_n 1, 1) := by decide +kernel
theorem dX5_append_20 : decode cX5_append 20 = .ok (.iastore, 1) := by decide +kernel
theorem dX5_append_21 : decode cX5_append 21 = .ok (.aload_n 0, 1) := by decide +kernel
theorem dX5_append_22 : decode cX5_append 22 = .ok (.getfield 15, 3) := by decide +kernel
theorem dX5_append_25 : decode cX5_append 25 = .ok (.iload 5, 2) := by decide +kernel
theorem dX5_append_27 : decode cX5_append 27 = .ok (.iload_n 2, 1) := by decide +kernel
theorem dX5_append_28 : decode cX5_append 28 = .ok (.iastore, 1) := by decide +kernel
theorem dX5_append_29 : decode cX5_append 29 = .ok (.aload_n 0, 1) := by decide +kernel
theorem dX5_append_30 : decode cX5_append 30 = .ok (.getfield 18, 3) := by decide +kernel
theorem dX5_append_33 : decode cX5_append 33 = .ok (.iload 5, 2) := by decide +kernel
theorem dX5_append_35 : decode cX5_append 35 = .ok (.iload_n 3, 1) := by decide +kernel
theorem dX5_append_36 : decode cX5_append 36 = .ok (.iastore, 1) := by decide +kernel
theorem dX5_append_37 : decode cX5_append 37 = .ok (.aload_n 0, 1) := by decide +kernel
theorem dX5_append_38 : decode cX5_append 38 = .ok (.getfield 21, 3) := by decide +kernel
theorem dX5_append_41 : decode cX5_append 41 = .ok (.iload 5, 2) := by decide +kernel
theorem dX5_append_43 : decode cX5_append 43 = .ok (.iload 4, 2) := by decide +kernel
theorem dX5_append_45 : decode cX5_append 45 = .ok (.iastore, 1) := by decide +kernel
theorem dX5_append_46 : decode cX5_append 46 = .ok (.aload_n 0, 1) := by decide +kernel
theorem dX5_append_47 : decode cX5_append 47 = .ok (.iload 5, 2) := by decide +kernel
theorem dX5_append_49 : decode cX5_append 49 = .ok (.iconst 1, 1) := by decide +kernel
theorem dX5_append_50 : decode cX5_append 50 = .ok (.iadd, 1) := by decide +kernel
theorem dX5_append_51 : decode cX5_append 51 = .ok (.putfield 24, 3) := by decide +kernel
theorem dX5_append_54 : decode cX5_append 54 = .ok (.iload 5, 2) := by decide +kernel
theorem dX5_append_56 : decode cX5_append 56 = .ok (.ireturn, 1) := by decide +kernel
theorem dX5_drop_0 : decode cX5_drop 0 = .ok (.iload_n 1, 1) := by decide +kernel
theorem dX5_drop_1 : decode cX5_drop 1 = .ok (.istore_n 2, 1) := by decide +kernel
theorem dX5_drop_2 : decode cX5_drop 2 = .ok (.iload_n 2, 1) := by decide +kernel
theorem dX5_drop_3 : decode cX5_drop 3 = .ok (.iconst 1, 1) := by decide +kernel
theorem dX5_drop_4 : decode cX5_drop 4 = .ok (.iadd, 1) := by decide +kernel
theorem dX5_drop_5 : decode cX5_drop 5 = .ok (.aload_n 0, 1) := by decide +kernel
theorem dX5_drop_6 : decode cX5_drop 6 = .ok (.getfield 24, 3) := by decide +kernel
theorem dX5_drop_9 : decode cX5_drop 9 = .ok (.if_icmp .ge 65, 3) := by decide +kernel
theorem dX5_drop_12 : decode cX5_drop 12 = .ok (.aload_n 0, 1) := by decide +kernel
theorem dX5_drop_13 : decode cX5_drop 13 = .ok (.getfield 9, 3) := by decide +kernel
theorem dX5_drop_16 : decode cX5_drop 16 = .ok (.iload_n 2, 1) := by decide +kernel
theorem dX5_drop_17 : decode cX5_drop 17 = .ok (.aload_n 0, 1) := by decide +kernel
theorem dX5_drop_18 : decode cX5_drop 18 = .ok (.getfield 9, 3) := by decide +kernel
theorem dX5_drop_21 : decode cX5_drop 21 = .ok (.iload_n 2, 1) := by decide +kernel
theorem dX5_drop_22 : decode cX5_drop 22 = .ok (.iconst 1, 1) := by decide +kernel
theorem dX5_drop_23 : decode cX5_drop 23 = .ok (.iadd, 1) := by decide +kernel
theorem dX5_drop_24 : decode cX5_drop 24 = .ok (.iaload, 1) := by decide +kernel
theorem dX5_drop_25 : decode cX5_drop 25 = .ok (.iastore, 1) := by decide +kernel
theorem dX5_drop_26 : decode cX5_drop 26 = .ok (.aload_n 0, 1) := by decide +kernel
theorem dX5_drop_27 : decode cX5_drop 27 = .ok (.getfield 15, 3) := by decide +kernel
theorem dX5_drop_30 : decode cX5_drop 30 = .ok (.iload_n 2, 1) := by decide +kernel
theorem dX5_drop_31 : decode cX5_drop 31 = .ok (.aload_n 0, 1) := by decide +kernel
theorem dX5_drop_32 : decode cX5_drop 32 = .ok (.getfield 15, 3) := by decide +kernel
theorem dX5_drop_35 : decode cX5_drop 35 = .ok (.iload_n 2, 1) := by decide +kernel
theorem dX5_drop_36 : decode cX5_drop 36 = .ok (.iconst 1, 1) := by decide +kernel
theorem dX5_drop_37 : decode cX5_drop 37 = .ok (.iadd, 1) := by decide +kernel
theorem dX5_drop_38 : decode cX5_drop 38 = .ok (.iaload, 1) := by decide +kernel
theorem dX5_drop_39 : decode cX5_drop 39 = .ok (.iastore, 1) := by decide +kernel
theorem dX5_drop_40 : decode cX5_drop 40 = .ok (.aload_n 0, 1) := by decide +kernel
theorem dX5_drop_41 : decode cX5_drop 41 = .ok (.getfield 18, 3) := by decide +kernel
theorem dX5_drop_44 : decode cX5_drop 44 = .ok (.iload_n 2, 1) := by decide +kernel
theorem dX5_drop_45 : decode cX5_drop 45 = .ok (.aload_n 0, 1) := by decide +kernel
theorem dX5_drop_46 : decode cX5_drop 46 = .ok (.getfield 18, 3) := by decide +kernel
theorem dX5_drop_49 : decode cX5_drop 49 = .ok (.iload_n 2, 1) := by decide +kernel
theorem dX5_drop_50 : decode cX5_drop 50 = .ok (.iconst 1, 1) := by decide +kernel
theorem dX5_drop_51 : decode cX5_drop 51 = .ok (.iadd, 1) := by decide +kernel
theorem dX5_drop_52 : decode cX5_drop 52 = .ok (.iaload, 1) := by decide +kernel
theorem dX5_drop_53 : decode cX5_drop 53 = .ok (.iastore, 1) := by decide +kernel
theorem dX5_drop_54 : decode cX5_drop 54 = .ok (.aload_n 0, 1) := by decide +kernel
theorem dX5_drop_55 : decode cX5_drop 55 = .ok (.getfield 21, 3) := by decide +kernel
theorem dX5_drop_58 : decode cX5_drop 58 = .ok (.iload_n 2, 1) := by decide +kernel
theorem dX5_drop_59 : decode cX5_drop 59 = .ok (.aload_n 0, 1) := by decide +kernel
theorem dX5_drop_60 : decode cX5_drop 60 = .ok (.getfield 21, 3) := by decide +kernel
theorem dX5_drop_63 : decode cX5_drop 63 = .ok (.iload_n 2, 1) := by decide +kernel
theorem dX5_drop_64 : decode cX5_drop 64 = .ok (.iconst 1, 1) := by decide +kernel
theorem dX5_drop_65 : decode cX5_drop 65 = .ok (.iadd, 1) := by decide +kernel
theorem dX5_drop_66 : decode cX5_drop 66 = .ok (.iaload, 1) := by decide +kernel
theorem dX5_drop_67 : decode cX5_drop 67 = .ok (.iastore, 1) := by decide +kernel
theorem dX5_drop_68 : decode cX5_drop 68 = .ok (.iinc 2 1, 3) := by decide +kernel
theorem dX5_drop_71 : decode cX5_drop 71 = .ok (.goto (-69), 3) := by decide +kernel
theorem dX5_drop_74 : decode cX5_drop 74 = .ok (.aload_n 0, 1) := by decide +kernel
theorem dX5_drop_75 : decode cX5_drop 75 = .ok (.dup, 1) := by decide +kernel
theorem dX5_drop_76 : decode cX5_drop 76 = .ok (.getfield 24, 3) := by decide +kernel
theorem dX5_drop_79 : decode cX5_drop 79 = .ok (.iconst 1, 1) := by decide +kernel
theorem dX5_drop_80 : decode cX5_drop 80 = .ok (.isub, 1) := by decide +kernel
theorem dX5_drop_81 : decode cX5_drop 81 = .ok (.putfield 24, 3) := by decide +kernel
theorem dX5_drop_84 : decode cX5_drop 84 = .ok (.return_, 1) := by decide +kernel
theorem dX6_init_0 : decode cX6_init 0 = .ok (.aload_n 0, 1) := by decide +kernel
theorem dX6_init_1 : decode cX6_init 1 = .ok (.invokespecial 3, 3) := by decide +kernel
theorem dX6_init_4 : decode cX6_init 4 = .ok (.aload_n 0, 1) := by decide +kernel
theorem dX6_init_5 : decode cX6_init 5 = .ok (.bipush 8, 2) := by decide +kernel
theorem dX6_init_7 : decode cX6_init 7 = .ok (.newarray .int, 2) := by decide +kernel
theorem dX6_init_9 : decode cX6_init 9 = .ok (.putfield 9, 3) := by decide +kernel
theorem dX6_init_12 : decode cX6_init 12 = .ok (.aload_n 0, 1) := by decide +kernel
theorem dX6_init_13 : decode cX6_init 13 = .ok (.bipush 8, 2) := by decide +kernel
theorem dX6_init_15 : decode cX6_init 15 = .ok (.newarray .int, 2) := by decide +kernel
theorem dX6_init_17 : decode cX6_init 17 = .ok (.putfield 15, 3) := by decide +kernel
theorem dX6_init_20 : decode cX6_init 20 = .ok (.aload_n 0, 1) := by decide +kernel
theorem dX6_init_21 : decode cX6_init 21 = .ok (.bipush 8, 2) := by decide +kernel
theorem dX6_init_23 : decode cX6_init 23 = .ok (.newarray .int, 2) := by decide +kernel
theorem dX6_init_25 : decode cX6_init 25 = .ok (.putfield 18, 3) := by decide +kernel
theorem dX6_init_28 : decode cX6_init 28 = .ok (.aload_n 0, 1) := by decide +kernel
theorem dX6_init_29 : decode cX6_init 29 = .ok (.bipush 8, 2) := by decide +kernel
theorem dX6_init_31 : decode cX6_init 31 = .ok (.newarray .int, 2) := by decide +kernel
theorem dX6_init_33 : decode cX6_init 33 = .ok (.putfield 21, 3) := by decide +kernel
theorem dX6_init_36 : decode cX6_init 36 = .ok (.aload_n 0, 1) := by decide +kernel
theorem dX6_init_37 : decode cX6_init 37 = .ok (.bipush 8, 2) := by decide +kernel
theorem dX6_init_39 : decode cX6_init 39 = .ok (.newarray .int, 2) := by decide +kernel
theorem dX6_init_41 : decode cX6_init 41 = .ok (.putfield 24, 3) := by decide +kernel
theorem dX6_init_44 : decode cX6_init 44 = .ok (.aload_n 0, 1) := by decide +kernel
theorem dX6_init_45 : decode cX6_init 45 = .ok (.bipush 8, 2) := by decide +kernel
theorem dX6_init_47 : decode cX6_init 47 = .ok (.newarray .int, 2) := by decide +kernel
theorem dX6_init_49 : decode cX6_init 49 = .ok (.putfield 27, 3) := by decide +kernel
theorem dX6_init_52 : decode cX6_init 52 = .ok (.aload_n 0, 1) := by decide +kernel
theorem dX6_init_53 : decode cX6_init 53 = .ok (.bipush 8, 2) := by decide +kernel
theorem dX6_init_55 : decode cX6_init 55 = .ok (.newarray .int, 2) := by decide +kernel
theorem dX6_init_57 : decode cX6_init 57 = .ok (.putfield 30, 3) := by decide +kernel
theorem dX6_init_60 : decode cX6_init 60 = .ok (.return_, 1) := by decide +kernel
theorem dX6_clear_0 : decode cX6_clear 0 = .ok (.aload_n 0, 1) := by decide +kernel
theorem dX6_clear_1 : decode cX6_clear 1 = .ok (.iconst 0, 1) := by decide +kernel
theorem dX6_clear_2 : decode cX6_clear 2 = .ok (.putfield 33, 3) := by decide +kernel
theorem dX6_clear_5 : decode cX6_clear 5 = .ok (.return_, 1) := by decide +kernel
set_option maxRecDepth 20000 in
theorem ggX6_copyFrom_X8_copyRow : GoodIn wsX6_copyFrom wsX8_copyRow := goodIn_r _ [11, 12, 13, 14, 15, 16, 17, 18, 19] (by decide +kernel) (by decide +kernel)
set_option maxRecDepth 20000 in
theorem gX6_copyFrom_X8_copyRow_n37 : GoodIn wsX6_copyFrom (wsX8_copyRow) := ggX6_copyFrom_X8_copyRow
theorem dX6_copyFrom_0 : decode cX6_copyFrom 0 = .ok (.aload_n 0, 1) := by decide +kernel
theorem dX6_copyFrom_1 : decode cX6_copyFrom 1 = .ok (.aload_n 1, 1) := by decide +kernel
theorem dX6_copyFrom_2 : decode cX6_copyFrom 2 = .ok (.getfield 33, 3) := by decide +kernel
theorem dX6_copyFrom_5 : decode cX6_copyFrom 5 = .ok (.putfield 33, 3) := by decide +kernel
theorem dX6_copyFrom_8 : decode cX6_copyFrom 8 = .ok (.aload_n 1, 1) := by decide +kernel
theorem dX6_copyFrom_9 : decode cX6_copyFrom 9 = .ok (.getfield 9, 3) := by decide +kernel
theorem dX6_copyFrom_12 : decode cX6_copyFrom 12 = .ok (.aload_n 0, 1) := by decide +kernel
theorem dX6_copyFrom_13 : decode cX6_copyFrom 13 = .ok (.getfield 9, 3) := by decide +kernel
theorem dX6_copyFrom_16 : decode cX6_copyFrom 16 = .ok (.invokestatic 37, 3) := by decide +kernel
theorem dX6_copyFrom_19 : decode cX6_copyFrom 19 = .ok (.aload_n 1, 1) := by decide +kernel
theorem dX6_copyFrom_20 : decode cX6_copyFrom 20 = .ok (.getfield 15, 3) := by decide +kernel
theorem dX6_copyFrom_23 : decode cX6_copyFrom 23 = .ok (.aload_n 0, 1) := by decide +kernel
theorem dX6_copyFrom_24 : decode cX6_copyFrom 24 = .ok (.getfield 15, 3) := by decide +kernel
theorem dX6_copyFrom_27 : decode cX6_copyFrom 27 = .ok (.invokestatic 37, 3) := by decide +kernel
theorem dX6_copyFrom_30 : decode cX6_copyFrom 30 = .ok (.aload_n 1, 1) := by decide +kernel
theorem dX6_copyFrom_31 : decode cX6_copyFrom 31 = .ok (.getfield 18, 3) := by decide +kernel
theorem dX6_copyFrom_34 : decode cX6_copyFrom 34 = .ok (.aload_n 0, 1) := by decide +kernel
theorem dX6_copyFrom_35 : decode cX6_copyFrom 35 = .ok (.getfield 18, 3) := by decide +kernel
theorem dX6_copyFrom_38 : decode cX6_copyFrom 38 = .ok (.invokestatic 37, 3) := by decide +kernel
theorem dX6_copyFrom_41 : decode cX6_copyFrom 41 = .ok (.aload_n 1, 1) := by decide +kernel
theorem dX6_copyFrom_42 : decode cX6_copyFrom 42 = .ok (.getfield 21, 3) := by decide +kernel
theorem dX6_copyFrom_45 : decode cX6_copyFrom 45 = .ok (.aload_n 0, 1) := by decide +kernel
theorem dX6_copyFrom_46 : decode cX6_copyFrom 46 = .ok (.getfield 21, 3) := by decide +kernel
theorem dX6_copyFrom_49 : decode cX6_copyFrom 49 = .ok (.invokestatic 37, 3) := by decide +kernel
theorem dX6_copyFrom_52 : decode cX6_copyFrom 52 = .ok (.aload_n 1, 1) := by decide +kernel
theorem dX6_copyFrom_53 : decode cX6_copyFrom 53 = .ok (.getfield 24, 3) := by decide +kernel
theorem dX6_copyFrom_56 : decode cX6_copyFrom 56 = .ok (.aload_n 0, 1) := by decide +kernel
theorem dX6_copyFrom_57 : decode cX6_copyFrom 57 = .ok (.getfield 24, 3) := by decide +kernel
theorem dX6_copyFrom_60 : decode cX6_copyFrom 60 = .ok (.invokestatic 37, 3) := by decide +kernel
theorem dX6_copyFrom_63 : decode cX6_copyFrom 63 = .ok (.aload_n 1, 1) := by decide +kernel
theorem dX6_copyFrom_64 : decode cX6_copyFrom 64 = .ok (.getfield 27, 3) := by decide +kernel
theorem dX6_copyFrom_67 : decode cX6_copyFrom 67 = .ok (.aload_n 0, 1) := by decide +kernel
theorem dX6_copyFrom_68 : decode cX6_copyFrom 68 = .ok (.getfield 27, 3) := by decide +kernel
theorem dX6_copyFrom_71 : decode cX6_copyFrom 71 = .ok (.invokestatic 37, 3) := by decide +kernel
theorem dX6_copyFrom_74 : decode cX6_copyFrom 74 = .ok (.aload_n 1, 1) := by decide +kernel
theorem dX6_copyFrom_75 : decode cX6_copyFrom 75 = .ok (.getfield 30, 3) := by decide +kernel
theorem dX6_copyFrom_78 : decode cX6_copyFrom 78 = .ok (.aload_n 0, 1) := by decide +kernel
theorem dX6_copyFrom_79 : decode cX6_copyFrom 79 = .ok (.getfield 30, 3) := by decide +kernel
theorem dX6_copyFrom_82 : decode cX6_copyFrom 82 = .ok (.invokestatic 37, 3) := by decide +kernel
theorem dX6_copyFrom_85 : decode cX6_copyFrom 85 = .ok (.return_, 1) := by decide +kernel
theorem dX6_has_0 : decode cX6_has 0 = .ok (.iload_n 1, 1) := by decide +kernel
theorem dX6_has_1 : decode cX6_has 1 = .ok (.ifCond .lt 15, 3) := by decide +kernel
theorem dX6_has_4 : decode cX6_has 4 = .ok (.iload_n 1, 1) := by decide +kernel
theorem dX6_has_5 : decode cX6_has 5 = .ok (.aload_n 0, 1) := by decide +kernel
theorem dX6_has_6 : decode cX6_has 6 = .ok (.getfield 33, 3) := by decide +kernel
theorem dX6_has_9 : decode cX6_has 9 = .ok (.if_icmp .ge 7, 3) := by decide +kernel
theorem dX6_has_12 : decode cX6_has 12 = .ok (.iconst 1, 1) := by decide +kernel
theorem dX6_has_13 : decode cX6_has 13 = .ok (.goto 4, 3) := by decide +kernel
theorem dX6_has_16 : decode cX6_has 16 = .ok (.iconst 0, 1) := by decide +kernel
theorem dX6_has_17 : decode cX6_has 17 = .ok (.ireturn, 1) := by decide +kernel
theorem dX6_append_0 : decode cX6_append 0 = .ok (.aload_n 0, 1) := by decide +kernel
theorem dX6_append_1 : decode cX6_append 1 = .ok (.getfield 33, 3) := by decide +kernel
theorem dX6_append_4 : decode cX6_append 4 = .ok (.istore 6, 2) := by decide +kernel
theorem dX6_append_6 : decode cX6_append 6 = .ok (.iload 6, 2) := by decide +kernel
theorem dX6_append_8 : decode cX6_append 8 = .ok (.bipush 8, 2) := by decide +kernel
theorem dX6_append_10 : decode cX6_append 10 = .ok (.if_icmp .ge 69, 3) := by decide +kernel
theorem dX6_append_13 : decode cX6_append 13 = .ok (.aload_n 0, 1) := by decide +kernel
theorem dX6_append_14 : decode cX6_append 14 = .ok (.getfield 9, 3) := by decide +kernel
theorem dX6_append_17 : decode cX6_append 17 = .ok (.iload 6, 2) := by decide +kernel
theorem dX6_append_19 : decode cX6_append 19 = .ok (.iload_n 1, 1) := by decide +kernel
theorem dX6_append_20 : decode cX6_append 20 = .ok (.iastore, 1) := by decide +kernel
theorem dX6_append_21 : decode cX6_append 21 = .ok (.aload_n 0, 1) := by decide +kernel
theorem dX6_append_22 : decode cX6_append 22 = .ok (.getfield 15, 3) := by decide +kernel
theorem dX6_append_25 : decode cX6_append 25 = .ok (.iload 6, 2) := by decide +kernel
theorem dX6_append_27 : decode cX6_append 27 = .ok (.iload_n 2, 1) := by decide +kernel
theorem dX6_append_28 : decode cX6_append 28 = .ok (.iastore, 1) := by decide +kernel
theorem dX6_append_29 : decode cX6_append 29 = .ok (.aload_n 0, 1) := by decide +kernel
theorem dX6_append_30 : decode cX6_append 30 = .ok (.getfield 18, 3) := by decide +kernel
theorem dX6_append_33 : decode cX6_append 33 = .ok (.iload 6, 2) := by decide +kernel
theorem dX6_append_35 : decode cX6_append 35 = .ok (.iload_n 3, 1) := by decide +kernel
theorem dX6_append_36 : decode cX6_append 36 = .ok (.iastore, 1) := by decide +kernel
theorem dX6_append_37 : decode cX6_append 37 = .ok (.aload_n 0, 1) := by decide +kernel
theorem dX6_append_38 : decode cX6_append 38 = .ok (.getfield 21, 3) := by decide +kernel
theorem dX6_append_41 : decode cX6_append 41 = .ok (.iload 6, 2) := by decide +kernel
theorem dX6_append_43 : decode cX6_append 43 = .ok (.iload 4, 2) := by decide +kernel
theorem dX6_append_45 : decode cX6_append 45 = .ok (.iastore, 1) := by decide +kernel
theorem dX6_append_46 : decode cX6_append 46 = .ok (.aload_n 0, 1) := by decide +kernel
theorem dX6_append_47 : decode cX6_append 47 = .ok (.getfield 24, 3) := by decide +kernel
theorem dX6_append_50 : decode cX6_append 50 = .ok (.iload 6, 2) := by decide +kernel
theorem dX6_append_52 : decode cX6_append 52 = .ok (.iload 5, 2) := by decide +kernel
theorem dX6_append_54 : decode cX6_append 54 = .ok (.iastore, 1) := by decide +kernel
theorem dX6_append_55 : decode cX6_append 55 = .ok (.aload_n 0, 1) := by decide +kernel
theorem dX6_append_56 : decode cX6_append 56 = .ok (.getfield 27, 3) := by decide +kernel
theorem dX6_append_59 : decode cX6_append 59 = .ok (.iload 6, 2) := by decide +kernel
theorem dX6_append_61 : decode cX6_append 61 = .ok (.iconst 0, 1) := by decide +kernel
theorem dX6_append_62 : decode cX6_append 62 = .ok (.iastore, 1) := by decide +kernel
theorem dX6_append_63 : decode cX6_append 63 = .ok (.aload_n 0, 1) := by decide +kernel
theorem dX6_append_64 : decode cX6_append 64 = .ok (.getfield 30, 3) := by decide +kernel
theorem dX6_append_67 : decode cX6_append 67 = .ok (.iload 6, 2) := by decide +kernel
theorem dX6_append_69 : decode cX6_append 69 = .ok (.iconst 0, 1) := by decide +kernel
theorem dX6_append_70 : decode cX6_append 70 = .ok (.iastore, 1) := by decide +kernel
theorem dX6_append_71 : decode cX6_append 71 = .ok (.aload_n 0, 1) := by decide +kernel
theorem dX6_append_72 : decode cX6_append 72 = .ok (.iload 6, 2) := by decide +kernel
theorem dX6_append_74 : decode cX6_append 74 = .ok (.iconst 1, 1) := by decide +kernel
theorem dX6_append_75 : decode cX6_append 75 = .ok (.iadd, 1) := by decide +kernel
theorem dX6_append_76 : decode cX6_append 76 = .ok (.putfield 33, 3) := by decide +kernel
theorem dX6_append_79 : decode cX6_append 79 = .ok (.iload 6, 2) := by decide +kernel
theorem dX6_append_81 : decode cX6_append 81 = .ok (.ireturn, 1) := by decide +kernel
theorem dX6_votes_0 : decode cX6_votes 0 = .ok (.aload_n 0, 1) := by decide +kernel
theorem dX6_votes_1 : decode cX6_votes 1 = .ok (.getfield 27, 3) := by decide +kernel
theorem dX6_votes_4 : decode cX6_votes 4 = .ok (.iload_n 1, 1) := by decide +kernel
theorem dX6_votes_5 : decode cX6_votes 5 = .ok (.iaload, 1) := by decide +kernel
theorem dX6_votes_6 : decode cX6_votes 6 = .ok (.iconst 2, 1) := by decide +kernel
theorem dX6_votes_7 : decode cX6_votes 7 = .ok (.if_icmp .eq 27, 3) := by decide +kernel
theorem dX6_votes_10 : decode cX6_votes 10 = .ok (.aload_n 0, 1) := by decide +kernel
theorem dX6_votes_11 : decode cX6_votes 11 = .ok (.getfield 27, 3) := by decide +kernel
theorem dX6_votes_14 : decode cX6_votes 14 = .ok (.iload_n 1, 1) := by decide +kernel
theorem dX6_votes_15 : decode cX6_votes 15 = .ok (.iaload, 1) := by decide +kernel
theorem dX6_votes_16 : decode cX6_votes 16 = .ok (.ifCond .ne 22, 3) := by decide +kernel
theorem dX6_votes_19 : decode cX6_votes 19 = .ok (.aload_n 0, 1) := by decide +kernel
theorem dX6_votes_20 : decode cX6_votes 20 = .ok (.getfield 30, 3) := by decide +kernel
theorem dX6_votes_23 : decode cX6_votes 23 = .ok (.iload_n 1, 1) := by decide +kernel
theorem dX6_votes_24 : decode cX6_votes 24 = .ok (.iaload, 1) := by decide +kernel
theorem dX6_votes_25 : decode cX6_votes 25 = .ok (.aload_n 0, 1) := by decide +kernel
theorem dX6_votes_26 : decode cX6_votes 26 = .ok (.getfield 21, 3) := by decide +kernel
theorem dX6_votes_29 : decode cX6_votes 29 = .ok (.iload_n 1, 1) := by decide +kernel
theorem dX6_votes_30 : decode cX6_votes 30 = .ok (.iaload, 1) := by decide +kernel
theorem dX6_votes_31 : decode cX6_votes 31 = .ok (.if_icmp .le 7, 3) := by decide +kernel
theorem dX6_votes_34 : decode cX6_votes 34 = .ok (.iconst 1, 1) := by decide +kernel
theorem dX6_votes_35 : decode cX6_votes 35 = .ok (.goto 4, 3) := by decide +kernel
theorem dX6_votes_38 : decode cX6_votes 38 = .ok (.iconst 0, 1) := by decide +kernel
theorem dX6_votes_39 : decode cX6_votes 39 = .ok (.ireturn, 1) := by decide +kernel
set_option maxRecDepth 20000 in
theorem ggX6_votersIn_X6_votes : GoodIn wsX6_votersIn wsX6_votes := goodIn_r _ [7, 8, 9, 10, 11, 12, 13, 14, 15, 16, 17, 18] (by decide +kernel) (by decide +kernel)
set_option maxRecDepth 20000 in
theorem gX6_votersIn_X6_votes : GoodIn wsX6_votersIn (wsV RX6 41 RX6 yX6_votes wsX6_votes) := goodIn_app (goodIn_of _ (by decide +kernel)) ggX6_votersIn_X6_votes
theorem dX6_votersIn_0 : decode cX6_votersIn 0 = .ok (.iconst 0, 1) := by decide +kernel
theorem dX6_votersIn_1 : decode cX6_votersIn 1 = .ok (.istore_n 2, 1) := by decide +kernel
theorem dX6_votersIn_2 : decode cX6_votersIn 2 = .ok (.iconst 0, 1) := by decide +kernel
theorem dX6_votersIn_3 : decode cX6_votersIn 3 = .ok (.istore_n 3, 1) := by decide +kernel
theorem dX6_votersIn_4 : decode cX6_votersIn 4 = .ok (.iload_n 3, 1) := by decide +kernel
theorem dX6_votersIn_5 : decode cX6_votersIn 5 = .ok (.aload_n 0, 1) := by decide +kernel
theorem dX6_votersIn_6 : decode cX6_votersIn 6 = .ok (.getfield 33, 3) := by decide +kernel
theorem dX6_votersIn_9 : decode cX6_votersIn 9 = .ok (.if_icmp .ge 33, 3) := by decide +kernel
theorem dX6_votersIn_12 : decode cX6_votersIn 12 = .ok (.aload_n 0, 1) := by decide +kernel
theorem dX6_votersIn_13 : decode cX6_votersIn 13 = .ok (.getfield 9, 3) := by decide +kernel
theorem dX6_votersIn_16 : decode cX6_votersIn 16 = .ok (.iload_n 3, 1) := by decide +kernel
theorem dX6_votersIn_17 : decode cX6_votersIn 17 = .ok (.iaload, 1) := by decide +kernel
theorem dX6_votersIn_18 : decode cX6_votersIn 18 = .ok (.iload_n 1, 1) := by decide +kernel
theorem dX6_votersIn_19 : decode cX6_votersIn 19 = .ok (.if_icmp .ne 17, 3) := by decide +kernel
theorem dX6_votersIn_22 : decode cX6_votersIn 22 = .ok (.aload_n 0, 1) := by decide +kernel
theorem dX6_votersIn_23 : decode cX6_votersIn 23 = .ok (.iload_n 3, 1) := by decide +kernel
theorem dX6_votersIn_24 : decode cX6_votersIn 24 = .ok (.invokevirtual 41, 3) := by decide +kernel
theorem dX6_votersIn_27 : decode cX6_votersIn 27 = .ok (.ifCond .eq 9, 3) := by decide +kernel
theorem dX6_votersIn_30 : decode cX6_votersIn 30 = .ok (.iload_n 2, 1) := by decide +kernel
theorem dX6_votersIn_31 : decode cX6_votersIn 31 = .ok (.iconst 1, 1) := by decide +kernel
theorem dX6_votersIn_32 : decode cX6_votersIn 32 = .ok (.iload_n 3, 1) := by decide +kernel
theorem dX6_votersIn_33 : decode cX6_votersIn 33 = .ok (.ishl, 1) := by decide +kernel
theorem dX6_votersIn_34 : decode cX6_votersIn 34 = .ok (.ior, 1) := by decide +kernel
theorem dX6_votersIn_35 : decode cX6_votersIn 35 = .ok (.istore_n 2, 1) := by decide +kernel
theorem dX6_votersIn_36 : decode cX6_votersIn 36 = .ok (.iinc 3 1, 3) := by decide +kernel
theorem dX6_votersIn_39 : decode cX6_votersIn 39 = .ok (.goto (-35), 3) := by decide +kernel
theorem dX6_votersIn_42 : decode cX6_votersIn 42 = .ok (.iload_n 2, 1) := by decide +kernel
theorem dX6_votersIn_43 : decode cX6_votersIn 43 = .ok (.ireturn, 1) := by decide +kernel
theorem dX6_weightOf_0 : decode cX6_weightOf 0 = .ok (.iconst 0, 1) := by decide +kernel
theorem dX6_weightOf_1 : decode cX6_weightOf 1 = .ok (.istore_n 2, 1) := by decide +kernel
theorem dX6_weightOf_2 : decode cX6_weightOf 2 = .ok (.iconst 0, 1) := by decide +kernel
theorem dX6_weightOf_3 : decode cX6_weightOf 3 = .ok (.istore_n 3, 1) := by decide +kernel
theorem dX6_weightOf_4 : decode cX6_weightOf 4 = .ok (.iload_n 3, 1) := by decide +kernel
theorem dX6_weightOf_5 : decode cX6_weightOf 5 = .ok (.aload_n 0, 1) := by decide +kernel
theorem dX6_weightOf_6 : decode cX6_weightOf 6 = .ok (.getfield 33, 3) := by decide +kernel
theorem dX6_weightOf_9 : decode cX6_weightOf 9 = .ok (.if_icmp .ge 26, 3) := by decide +kernel
theorem dX6_weightOf_12 : decode cX6_weightOf 12 = .ok (.iload_n 1, 1) := by decide +kernel
theorem dX6_weightOf_13 : decode cX6_weightOf 13 = .ok (.iconst 1, 1) := by decide +kernel
theorem dX6_weightOf_14 : decode cX6_weightOf 14 = .ok (.iload_n 3, 1) := by decide +kernel
theorem dX6_weightOf_15 : decode cX6_weightOf 15 = .ok (.ishl, 1) := by decide +kernel
theorem dX6_weightOf_16 : decode cX6_weightOf 16 = .ok (.iand, 1) := by decide +kernel
theorem dX6_weightOf_17 : decode cX6_weightOf 17 = .ok (.ifCond .eq 12, 3) := by decide +kernel
theorem dX6_weightOf_20 : decode cX6_weightOf 20 = .ok (.iload_n 2, 1) := by decide +kernel
theorem dX6_weightOf_21 : decode cX6_weightOf 21 = .ok (.aload_n 0, 1) := by decide +kernel
theorem dX6_weightOf_22 : decode cX6_weightOf 22 = .ok (.getfield 24, 3) := by decide +kernel
theorem dX6_weightOf_25 : decode cX6_weightOf 25 = .ok (.iload_n 3, 1) := by decide +kernel
theorem dX6_weightOf_26 : decode cX6_weightOf 26 = .ok (.iaload, 1) := by decide +kernel
theorem dX6_weightOf_27 : decode cX6_weightOf 27 = .ok (.iadd, 1) := by decide +kernel
theorem dX6_weightOf_28 : decode cX6_weightOf 28 = .ok (.istore_n 2, 1) := by decide +kernel
theorem dX6_weightOf_29 : decode cX6_weightOf 29 = .ok (.iinc 3 1, 3) := by decide +kernel
theorem dX6_weightOf_32 : decode cX6_weightOf 32 = .ok (.goto (-28), 3) := by decide +kernel
theorem dX6_weightOf_35 : decode cX6_weightOf 35 = .ok (.iload_n 2, 1) := by decide +kernel
theorem dX6_weightOf_36 : decode cX6_weightOf 36 = .ok (.ireturn, 1) := by decide +kernel
theorem dX6_countMinute_0 : decode cX6_countMinute 0 = .ok (.aload_n 0, 1) := by decide +kernel
theorem dX6_countMinute_1 : decode cX6_countMinute 1 = .ok (.getfield 30, 3) := by decide +kernel
theorem dX6_countMinute_4 : decode cX6_countMinute 4 = .ok (.iload_n 1, 1) := by decide +kernel
theorem dX6_countMinute_5 : decode cX6_countMinute 5 = .ok (.iload_n 2, 1) := by decide +kernel
theorem dX6_countMinute_6 : decode cX6_countMinute 6 = .ok (.ifCond .eq 19, 3) := by decide +kernel
theorem dX6_countMinute_9 : decode cX6_countMinute 9 = .ok (.aload_n 0, 1) := by decide +kernel
theorem dX6_countMinute_10 : decode cX6_countMinute 10 = .ok (.getfield 30, 3) := by decide +kernel
theorem dX6_countMinute_13 : decode cX6_countMinute 13 = .ok (.iload_n 1, 1) := by decide +kernel
theorem dX6_countMinute_14 : decode cX6_countMinute 14 = .ok (.iaload, 1) := by decide +kernel
theorem dX6_countMinute_15 : decode cX6_countMinute 15 = .ok (.iconst 1, 1) := by decide +kernel
theorem dX6_countMinute_16 : decode cX6_countMinute 16 = .ok (.iadd, 1) := by decide +kernel
theorem dX6_countMinute_17 : decode cX6_countMinute 17 = .ok (.bipush 99, 2) := by decide +kernel
theorem dX6_countMinute_19 : decode cX6_countMinute 19 = .ok (.invokestatic 45, 3) := by decide +kernel
theorem dX6_countMinute_22 : decode cX6_countMinute 22 = .ok (.goto 4, 3) := by decide +kernel
theorem dX6_countMinute_25 : decode cX6_countMinute 25 = .ok (.iconst 0, 1) := by decide +kernel
theorem dX6_countMinute_26 : decode cX6_countMinute 26 = .ok (.iastore, 1) := by decide +kernel
theorem dX6_countMinute_27 : decode cX6_countMinute 27 = .ok (.return_, 1) := by decide +kernel
theorem dJ6_bitCount_0f7a4_0 : decode cJ6_bitCount_0f7a4 0 = .ok (.iload_n 0, 1) := by decide +kernel
theorem dJ6_bitCount_0f7a4_1 : decode cJ6_bitCount_0f7a4 1 = .ok (.iload_n 0, 1) := by decide +kernel
theorem dJ6_bitCount_0f7a4_2 : decode cJ6_bitCount_0f7a4 2 = .ok (.iconst 1, 1) := by decide +kernel
theorem dJ6_bitCount_0f7a4_3 : decode cJ6_bitCount_0f7a4 3 = .ok (.iushr, 1) := by decide +kernel
theorem dJ6_bitCount_0f7a4_4 : decode cJ6_bitCount_0f7a4 4 = .ok (.ldc_w 265, 3) := by decide +kernel
theorem dJ6_bitCount_0f7a4_7 : decode cJ6_bitCount_0f7a4 7 = .ok (.iand, 1) := by decide +kernel
theorem dJ6_bitCount_0f7a4_8 : decode cJ6_bitCount_0f7a4 8 = .ok (.isub, 1) := by decide +kernel
theorem dJ6_bitCount_0f7a4_9 : decode cJ6_bitCount_0f7a4 9 = .ok (.istore_n 0, 1) := by decide +kernel
theorem dJ6_bitCount_0f7a4_10 : decode cJ6_bitCount_0f7a4 10 = .ok (.iload_n 0, 1) := by decide +kernel
theorem dJ6_bitCount_0f7a4_11 : decode cJ6_bitCount_0f7a4 11 = .ok (.ldc_w 266, 3) := by decide +kernel
theorem dJ6_bitCount_0f7a4_14 : decode cJ6_bitCount_0f7a4 14 = .ok (.iand, 1) := by decide +kernel
theorem dJ6_bitCount_0f7a4_15 : decode cJ6_bitCount_0f7a4 15 = .ok (.iload_n 0, 1) := by decide +kernel
theorem dJ6_bitCount_0f7a4_16 : decode cJ6_bitCount_0f7a4 16 = .ok (.iconst 2, 1) := by decide +kernel
theorem dJ6_bitCount_0f7a4_17 : decode cJ6_bitCount_0f7a4 17 = .ok (.iushr, 1) := by decide +kernel
theorem dJ6_bitCount_0f7a4_18 : decode cJ6_bitCount_0f7a4 18 = .ok (.ldc_w 266, 3) := by decide +kernel
theorem dJ6_bitCount_0f7a4_21 : decode cJ6_bitCount_0f7a4 21 = .ok (.iand, 1) := by decide +kernel
theorem dJ6_bitCount_0f7a4_22 : decode cJ6_bitCount_0f7a4 22 = .ok (.iadd, 1) := by decide +kernel
theorem dJ6_bitCount_0f7a4_23 : decode cJ6_bitCount_0f7a4 23 = .ok (.istore_n 0, 1) := by decide +kernel
theorem dJ6_bitCount_0f7a4_24 : decode cJ6_bitCount_0f7a4 24 = .ok (.iload_n 0, 1) := by decide +kernel
theorem dJ6_bitCount_0f7a4_25 : decode cJ6_bitCount_0f7a4 25 = .ok (.iload_n 0, 1) := by decide +kernel
theorem dJ6_bitCount_0f7a4_26 : decode cJ6_bitCount_0f7a4 26 = .ok (.iconst 4, 1) := by decide +kernel
theorem dJ6_bitCount_0f7a4_27 : decode cJ6_bitCount_0f7a4 27 = .ok (.iushr, 1) := by decide +kernel
theorem dJ6_bitCount_0f7a4_28 : decode cJ6_bitCount_0f7a4 28 = .ok (.iadd, 1) := by decide +kernel
theorem dJ6_bitCount_0f7a4_29 : decode cJ6_bitCount_0f7a4 29 = .ok (.ldc_w 267, 3) := by decide +kernel
theorem dJ6_bitCount_0f7a4_32 : decode cJ6_bitCount_0f7a4 32 = .ok (.iand, 1) := by decide +kernel
theorem dJ6_bitCount_0f7a4_33 : decode cJ6_bitCount_0f7a4 33 = .ok (.istore_n 0, 1) := by decide +kernel
theorem dJ6_bitCount_0f7a4_34 : decode cJ6_bitCount_0f7a4 34 = .ok (.iload_n 0, 1) := by decide +kernel
theorem dJ6_bitCount_0f7a4_35 : decode cJ6_bitCount_0f7a4 35 = .ok (.iload_n 0, 1) := by decide +kernel
theorem dJ6_bitCount_0f7a4_36 : decode cJ6_bitCount_0f7a4 36 = .ok (.bipush 8, 2) := by decide +kernel
theorem dJ6_bitCount_0f7a4_38 : decode cJ6_bitCount_0f7a4 38 = .ok (.iushr, 1) := by decide +kernel
theorem dJ6_bitCount_0f7a4_39 : decode cJ6_bitCount_0f7a4 39 = .ok (.iadd, 1) := by decide +kernel
theorem dJ6_bitCount_0f7a4_40 : decode cJ6_bitCount_0f7a4 40 = .ok (.istore_n 0, 1) := by decide +kernel
theorem dJ6_bitCount_0f7a4_41 : decode cJ6_bitCount_0f7a4 41 = .ok (.iload_n 0, 1) := by decide +kernel
theorem dJ6_bitCount_0f7a4_42 : decode cJ6_bitCount_0f7a4 42 = .ok (.iload_n 0, 1) := by decide +kernel
theorem dJ6_bitCount_0f7a4_43 : decode cJ6_bitCount_0f7a4 43 = .ok (.bipush 16, 2) := by decide +kernel
theorem dJ6_bitCount_0f7a4_45 : decode cJ6_bitCount_0f7a4 45 = .ok (.iushr, 1) := by decide +kernel
theorem dJ6_bitCount_0f7a4_46 : decode cJ6_bitCount_0f7a4 46 = .ok (.iadd, 1) := by decide +kernel
theorem dJ6_bitCount_0f7a4_47 : decode cJ6_bitCount_0f7a4 47 = .ok (.istore_n 0, 1) := by decide +kernel
theorem dJ6_bitCount_0f7a4_48 : decode cJ6_bitCount_0f7a4 48 = .ok (.iload_n 0, 1) := by decide +kernel
theorem dJ6_bitCount_0f7a4_49 : decode cJ6_bitCount_0f7a4 49 = .ok (.bipush 63, 2) := by decide +kernel
theorem dJ6_bitCount_0f7a4_51 : decode cJ6_bitCount_0f7a4 51 = .ok (.iand, 1) := by decide +kernel
theorem dJ6_bitCount_0f7a4_52 : decode cJ6_bitCount_0f7a4 52 = .ok (.ireturn, 1) := by decide +kernel
theorem dJ9_max_7cf53_0 : decode cJ9_max_7cf53 0 = .ok (.iload_n 0, 1) := by decide +kernel
theorem dJ9_max_7cf53_1 : decode cJ9_max_7cf53 1 = .ok (.iload_n 1, 1) := by decide +kernel
theorem dJ9_max_7cf53_2 : decode cJ9_max_7cf53 2 = .ok (.if_icmp .lt 7, 3) := by decide +kernel
theorem dJ9_max_7cf53_5 : decode cJ9_max_7cf53 5 = .ok (.iload_n 0, 1) := by decide +kernel
theorem dJ9_max_7cf53_6 : decode cJ9_max_7cf53 6 = .ok (.goto 4, 3) := by decide +kernel
theorem dJ9_max_7cf53_9 : decode cJ9_max_7cf53 9 = .ok (.iload_n 1, 1) := by decide +kernel
theorem dJ9_max_7cf53_10 : decode cJ9_max_7cf53 10 = .ok (.ireturn, 1) := by decide +kernel
theorem dJ9_min_7cf53_0 : decode cJ9_min_7cf53 0 = .ok (.iload_n 0, 1) := by decide +kernel
theorem dJ9_min_7cf53_1 : decode cJ9_min_7cf53 1 = .ok (.iload_n 1, 1) := by decide +kernel
theorem dJ9_min_7cf53_2 : decode cJ9_min_7cf53 2 = .ok (.if_icmp .gt 7, 3) := by decide +kernel
theorem dJ9_min_7cf53_5 : decode cJ9_min_7cf53 5 = .ok (.iload_n 0, 1) := by decide +kernel
theorem dJ9_min_7cf53_6 : decode cJ9_min_7cf53 6 = .ok (.goto 4, 3) := by decide +kernel
theorem dJ9_min_7cf53_9 : decode cJ9_min_7cf53 9 = .ok (.iload_n 1, 1) := by decide +kernel
theorem dJ9_min_7cf53_10 : decode cJ9_min_7cf53 10 = .ok (.ireturn, 1) := by decide +kernel
