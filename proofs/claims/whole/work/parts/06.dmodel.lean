set_option maxRecDepth 20000 in
theorem ggX9_init_X9_begins : GoodIn wsX9_init wsX9_begins := goodIn_r _ [13, 5, 14, 15, 16, 17, 18, 19, 20] (by decide +kernel) (by decide +kernel)
set_option maxRecDepth 20000 in
theorem gX9_init_X9_begins : GoodIn wsX9_init (wsV RX9 22 RX9 yX9_begins wsX9_begins) := goodIn_app (goodIn_of _ (by decide +kernel)) ggX9_init_X9_begins
theorem dX9_init_0 : decode cX9_init 0 = .ok (.aload_n 0, 1) := by decide +kernel
theorem dX9_init_1 : decode cX9_init 1 = .ok (.invokespecial 1, 3) := by decide +kernel
theorem dX9_init_4 : decode cX9_init 4 = .ok (.aload_n 0, 1) := by decide +kernel
theorem dX9_init_5 : decode cX9_init 5 = .ok (.sipush 225, 3) := by decide +kernel
theorem dX9_init_8 : decode cX9_init 8 = .ok (.newarray .int, 2) := by decide +kernel
theorem dX9_init_10 : decode cX9_init 10 = .ok (.putfield 7, 3) := by decide +kernel
theorem dX9_init_13 : decode cX9_init 13 = .ok (.aload_n 0, 1) := by decide +kernel
theorem dX9_init_14 : decode cX9_init 14 = .ok (.sipush 900, 3) := by decide +kernel
theorem dX9_init_17 : decode cX9_init 17 = .ok (.newarray .int, 2) := by decide +kernel
theorem dX9_init_19 : decode cX9_init 19 = .ok (.putfield 13, 3) := by decide +kernel
theorem dX9_init_22 : decode cX9_init 22 = .ok (.aload_n 0, 1) := by decide +kernel
theorem dX9_init_23 : decode cX9_init 23 = .ok (.sipush 225, 3) := by decide +kernel
theorem dX9_init_26 : decode cX9_init 26 = .ok (.newarray .int, 2) := by decide +kernel
theorem dX9_init_28 : decode cX9_init 28 = .ok (.putfield 16, 3) := by decide +kernel
theorem dX9_init_31 : decode cX9_init 31 = .ok (.aload_n 0, 1) := by decide +kernel
theorem dX9_init_32 : decode cX9_init 32 = .ok (.iconst 4, 1) := by decide +kernel
theorem dX9_init_33 : decode cX9_init 33 = .ok (.newarray .int, 2) := by decide +kernel
theorem dX9_init_35 : decode cX9_init 35 = .ok (.putfield 19, 3) := by decide +kernel
theorem dX9_init_38 : decode cX9_init 38 = .ok (.aload_n 0, 1) := by decide +kernel
theorem dX9_init_39 : decode cX9_init 39 = .ok (.iconst 2, 1) := by decide +kernel
theorem dX9_init_40 : decode cX9_init 40 = .ok (.invokevirtual 22, 3) := by decide +kernel
theorem dX9_init_43 : decode cX9_init 43 = .ok (.return_, 1) := by decide +kernel
theorem dX9_thrown_0 : decode cX9_thrown 0 = .ok (.aload_n 0, 1) := by decide +kernel
theorem dX9_thrown_1 : decode cX9_thrown 1 = .ok (.getfield 26, 3) := by decide +kernel
theorem dX9_thrown_4 : decode cX9_thrown 4 = .ok (.ireturn, 1) := by decide +kernel
theorem dX9_refused_0 : decode cX9_refused 0 = .ok (.aload_n 0, 1) := by decide +kernel
theorem dX9_refused_1 : decode cX9_refused 1 = .ok (.iload_n 1, 1) := by decide +kernel
theorem dX9_refused_2 : decode cX9_refused 2 = .ok (.putfield 26, 3) := by decide +kernel
theorem dX9_refused_5 : decode cX9_refused 5 = .ok (.iload_n 1, 1) := by decide +kernel
theorem dX9_refused_6 : decode cX9_refused 6 = .ok (.ifCond .le 7, 3) := by decide +kernel
theorem dX9_refused_9 : decode cX9_refused 9 = .ok (.iconst 1, 1) := by decide +kernel
theorem dX9_refused_10 : decode cX9_refused 10 = .ok (.goto 4, 3) := by decide +kernel
theorem dX9_refused_13 : decode cX9_refused 13 = .ok (.iconst 0, 1) := by decide +kernel
theorem dX9_refused_14 : decode cX9_refused 14 = .ok (.ireturn, 1) := by decide +kernel
theorem dX9_within_0 : decode cX9_within 0 = .ok (.iload_n 0, 1) := by decide +kernel
theorem dX9_within_1 : decode cX9_within 1 = .ok (.iload_n 1, 1) := by decide +kernel
theorem dX9_within_2 : decode cX9_within 2 = .ok (.if_icmp .lt 12, 3) := by decide +kernel
theorem dX9_within_5 : decode cX9_within 5 = .ok (.iload_n 0, 1) := by decide +kernel
theorem dX9_within_6 : decode cX9_within 6 = .ok (.iload_n 2, 1) := by decide +kernel
theorem dX9_within_7 : decode cX9_within 7 = .ok (.if_icmp .gt 7, 3) := by decide +kernel
theorem dX9_within_10 : decode cX9_within 10 = .ok (.iconst 1, 1) := by decide +kernel
theorem dX9_within_11 : decode cX9_within 11 = .ok (.goto 4, 3) := by decide +kernel
theorem dX9_within_14 : decode cX9_within 14 = .ok (.iconst 0, 1) := by decide +kernel
theorem dX9_within_15 : decode cX9_within 15 = .ok (.ireturn, 1) := by decide +kernel
theorem dX9_begins_0 : decode cX9_begins 0 = .ok (.iconst 0, 1) := by decide +kernel
theorem dX9_begins_1 : decode cX9_begins 1 = .ok (.istore_n 2, 1) := by decide +kernel
theorem dX9_begins_2 : decode cX9_begins 2 = .ok (.iload_n 2, 1) := by decide +kernel
theorem dX9_begins_3 : decode cX9_begins 3 = .ok (.sipush 225, 3) := by decide +kernel
theorem dX9_begins_6 : decode cX9_begins 6 = .ok (.if_icmp .ge 16, 3) := by decide +kernel
theorem dX9_begins_9 : decode cX9_begins 9 = .ok (.aload_n 0, 1) := by decide +kernel
theorem dX9_begins_10 : decode cX9_begins 10 = .ok (.getfield 7, 3) := by decide +kernel
theorem dX9_begins_13 : decode cX9_begins 13 = .ok (.iload_n 2, 1) := by decide +kernel
theorem dX9_begins_14 : decode cX9_begins 14 = .ok (.iconst 0, 1) := by decide +kernel
theorem dX9_begins_15 : decode cX9_begins 15 = .ok (.iastore, 1) := by decide +kernel
theorem dX9_begins_16 : decode cX9_begins 16 = .ok (.iinc 2 1, 3) := by decide +kernel
theorem dX9_begins_19 : decode cX9_begins 19 = .ok (.goto (-17), 3) := by decide +kernel
theorem dX9_begins_22 : decode cX9_begins 22 = .ok (.aload_n 0, 1) := by decide +kernel
theorem dX9_begins_23 : decode cX9_begins 23 = .ok (.getfield 7, 3) := by decide +kernel
theorem dX9_begins_26 : decode cX9_begins 26 = .ok (.bipush 6, 2) := by decide +kernel
theorem dX9_begins_28 : decode cX9_begins 28 = .ok (.iload_n 1, 1) := by decide +kernel
theorem dX9_begins_29 : decode cX9_begins 29 = .ok (.iastore, 1) := by decide +kernel
theorem dX9_begins_30 : decode cX9_begins 30 = .ok (.aload_n 0, 1) := by decide +kernel
theorem dX9_begins_31 : decode cX9_begins 31 = .ok (.getfield 7, 3) := by decide +kernel
theorem dX9_begins_34 : decode cX9_begins 34 = .ok (.iconst 1, 1) := by decide +kernel
theorem dX9_begins_35 : decode cX9_begins 35 = .ok (.iconst 2, 1) := by decide +kernel
theorem dX9_begins_36 : decode cX9_begins 36 = .ok (.iastore, 1) := by decide +kernel
theorem dX9_begins_37 : decode cX9_begins 37 = .ok (.aload_n 0, 1) := by decide +kernel
theorem dX9_begins_38 : decode cX9_begins 38 = .ok (.getfield 7, 3) := by decide +kernel
theorem dX9_begins_41 : decode cX9_begins 41 = .ok (.iconst 2, 1) := by decide +kernel
theorem dX9_begins_42 : decode cX9_begins 42 = .ok (.iconst 3, 1) := by decide +kernel
theorem dX9_begins_43 : decode cX9_begins 43 = .ok (.iastore, 1) := by decide +kernel
theorem dX9_begins_44 : decode cX9_begins 44 = .ok (.aload_n 0, 1) := by decide +kernel
theorem dX9_begins_45 : decode cX9_begins 45 = .ok (.getfield 7, 3) := by decide +kernel
theorem dX9_begins_48 : decode cX9_begins 48 = .ok (.iconst 4, 1) := by decide +kernel
theorem dX9_begins_49 : decode cX9_begins 49 = .ok (.bipush 8, 2) := by decide +kernel
theorem dX9_begins_51 : decode cX9_begins 51 = .ok (.iastore, 1) := by decide +kernel
theorem dX9_begins_52 : decode cX9_begins 52 = .ok (.aload_n 0, 1) := by decide +kernel
theorem dX9_begins_53 : decode cX9_begins 53 = .ok (.getfield 7, 3) := by decide +kernel
theorem dX9_begins_56 : decode cX9_begins 56 = .ok (.bipush 9, 2) := by decide +kernel
theorem dX9_begins_58 : decode cX9_begins 58 = .ok (.bipush 8, 2) := by decide +kernel
theorem dX9_begins_60 : decode cX9_begins 60 = .ok (.iastore, 1) := by decide +kernel
theorem dX9_begins_61 : decode cX9_begins 61 = .ok (.return_, 1) := by decide +kernel
theorem dX9_saves_0 : decode cX9_saves 0 = .ok (.aload_n 0, 1) := by decide +kernel
theorem dX9_saves_1 : decode cX9_saves 1 = .ok (.getfield 30, 3) := by decide +kernel
theorem dX9_saves_4 : decode cX9_saves 4 = .ok (.iconst 4, 1) := by decide +kernel
theorem dX9_saves_5 : decode cX9_saves 5 = .ok (.if_icmp .ne 44, 3) := by decide +kernel
theorem dX9_saves_8 : decode cX9_saves 8 = .ok (.iconst 0, 1) := by decide +kernel
theorem dX9_saves_9 : decode cX9_saves 9 = .ok (.istore_n 1, 1) := by decide +kernel
theorem dX9_saves_10 : decode cX9_saves 10 = .ok (.iload_n 1, 1) := by decide +kernel
theorem dX9_saves_11 : decode cX9_saves 11 = .ok (.sipush 675, 3) := by decide +kernel
theorem dX9_saves_14 : decode cX9_saves 14 = .ok (.if_icmp .ge 25, 3) := by decide +kernel
theorem dX9_saves_17 : decode cX9_saves 17 = .ok (.aload_n 0, 1) := by decide +kernel
theorem dX9_saves_18 : decode cX9_saves 18 = .ok (.getfield 13, 3) := by decide +kernel
theorem dX9_saves_21 : decode cX9_saves 21 = .ok (.iload_n 1, 1) := by decide +kernel
theorem dX9_saves_22 : decode cX9_saves 22 = .ok (.aload_n 0, 1) := by decide +kernel
theorem dX9_saves_23 : decode cX9_saves 23 = .ok (.getfield 13, 3) := by decide +kernel
theorem dX9_saves_26 : decode cX9_saves 26 = .ok (.iload_n 1, 1) := by decide +kernel
theorem dX9_saves_27 : decode cX9_saves 27 = .ok (.sipush 225, 3) := by decide +kernel
theorem dX9_saves_30 : decode cX9_saves 30 = .ok (.iadd, 1) := by decide +kernel
theorem dX9_saves_31 : decode cX9_saves 31 = .ok (.iaload, 1) := by decide +kernel
theorem dX9_saves_32 : decode cX9_saves 32 = .ok (.iastore, 1) := by decide +kernel
theorem dX9_saves_33 : decode cX9_saves 33 = .ok (.iinc 1 1, 3) := by decide +kernel
theorem dX9_saves_36 : decode cX9_saves 36 = .ok (.goto (-26), 3) := by decide +kernel
theorem dX9_saves_39 : decode cX9_saves 39 = .ok (.aload_n 0, 1) := by decide +kernel
theorem dX9_saves_40 : decode cX9_saves 40 = .ok (.dup, 1) := by decide +kernel
theorem dX9_saves_41 : decode cX9_saves 41 = .ok (.getfield 30, 3) := by decide +kernel
theorem dX9_saves_44 : decode cX9_saves 44 = .ok (.iconst 1, 1) := by decide +kernel
theorem dX9_saves_45 : decode cX9_saves 45 = .ok (.isub, 1) := by decide +kernel
theorem dX9_saves_46 : decode cX9_saves 46 = .ok (.putfield 30, 3) := by decide +kernel
theorem dX9_saves_49 : decode cX9_saves 49 = .ok (.iconst 0, 1) := by decide +kernel
theorem dX9_saves_50 : decode cX9_saves 50 = .ok (.istore_n 1, 1) := by decide +kernel
theorem dX9_saves_51 : decode cX9_saves 51 = .ok (.iload_n 1, 1) := by decide +kernel
theorem dX9_saves_52 : decode cX9_saves 52 = .ok (.sipush 225, 3) := by decide +kernel
theorem dX9_saves_55 : decode cX9_saves 55 = .ok (.if_icmp .ge 30, 3) := by decide +kernel
theorem dX9_saves_58 : decode cX9_saves 58 = .ok (.aload_n 0, 1) := by decide +kernel
theorem dX9_saves_59 : decode cX9_saves 59 = .ok (.getfield 13, 3) := by decide +kernel
theorem dX9_saves_62 : decode cX9_saves 62 = .ok (.sipush 225, 3) := by decide +kernel
theorem dX9_saves_65 : decode cX9_saves 65 = .ok (.aload_n 0, 1) := by decide +kernel
theorem dX9_saves_66 : decode cX9_saves 66 = .ok (.getfield 30, 3) := by decide +kernel
theorem dX9_saves_69 : decode cX9_saves 69 = .ok (.imul, 1) := by decide +kernel
theorem dX9_saves_70 : decode cX9_saves 70 = .ok (.iload_n 1, 1) := by decide +kernel
theorem dX9_saves_71 : decode cX9_saves 71 = .ok (.iadd, 1) := by decide +kernel
theorem dX9_saves_72 : decode cX9_saves 72 = .ok (.aload_n 0, 1) := by decide +kernel
theorem dX9_saves_73 : decode cX9_saves 73 = .ok (.getfield 7, 3) := by decide +kernel
theorem dX9_saves_76 : decode cX9_saves 76 = .ok (.iload_n 1, 1) := by decide +kernel
theorem dX9_saves_77 : decode cX9_saves 77 = .ok (.iaload, 1) := by decide +kernel
theorem dX9_saves_78 : decode cX9_saves 78 = .ok (.iastore, 1) := by decide +kernel
theorem dX9_saves_79 : decode cX9_saves 79 = .ok (.iinc 1 1, 3) := by decide +kernel
theorem dX9_saves_82 : decode cX9_saves 82 = .ok (.goto (-31), 3) := by decide +kernel
theorem dX9_saves_85 : decode cX9_saves 85 = .ok (.aload_n 0, 1) := by decide +kernel
theorem dX9_saves_86 : decode cX9_saves 86 = .ok (.dup, 1) := by decide +kernel
theorem dX9_saves_87 : decode cX9_saves 87 = .ok (.getfield 30, 3) := by decide +kernel
theorem dX9_saves_90 : decode cX9_saves 90 = .ok (.iconst 1, 1) := by decide +kernel
theorem dX9_saves_91 : decode cX9_saves 91 = .ok (.iadd, 1) := by decide +kernel
theorem dX9_saves_92 : decode cX9_saves 92 = .ok (.putfield 30, 3) := by decide +kernel
theorem dX9_saves_95 : decode cX9_saves 95 = .ok (.return_, 1) := by decide +kernel
set_option maxRecDepth 20000 in
theorem ggX9_undo_X9_refused : GoodIn wsX9_undo wsX9_refused := goodIn_r _ [8, 9, 10, 11, 12, 13, 14, 15, 16] (by decide +kernel) (by decide +kernel)
set_option maxRecDepth 20000 in
theorem gX9_undo_X9_refused : GoodIn wsX9_undo (wsV RX9 33 RX9 yX9_refused wsX9_refused) := goodIn_app (goodIn_of _ (by decide +kernel)) ggX9_undo_X9_refused
theorem dX9_undo_0 : decode cX9_undo 0 = .ok (.aload_n 0, 1) := by decide +kernel
theorem dX9_undo_1 : decode cX9_undo 1 = .ok (.aload_n 0, 1) := by decide +kernel
theorem dX9_undo_2 : decode cX9_undo 2 = .ok (.getfield 30, 3) := by decide +kernel
theorem dX9_undo_5 : decode cX9_undo 5 = .ok (.ifCond .ne 7, 3) := by decide +kernel
theorem dX9_undo_8 : decode cX9_undo 8 = .ok (.iconst 1, 1) := by decide +kernel
theorem dX9_undo_9 : decode cX9_undo 9 = .ok (.goto 4, 3) := by decide +kernel
theorem dX9_undo_12 : decode cX9_undo 12 = .ok (.iconst 0, 1) := by decide +kernel
theorem dX9_undo_13 : decode cX9_undo 13 = .ok (.invokevirtual 33, 3) := by decide +kernel
theorem dX9_undo_16 : decode cX9_undo 16 = .ok (.ifCond .eq 5, 3) := by decide +kernel
theorem dX9_undo_19 : decode cX9_undo 19 = .ok (.iconst 0, 1) := by decide +kernel
theorem dX9_undo_20 : decode cX9_undo 20 = .ok (.ireturn, 1) := by decide +kernel
theorem dX9_undo_21 : decode cX9_undo 21 = .ok (.aload_n 0, 1) := by decide +kernel
theorem dX9_undo_22 : decode cX9_undo 22 = .ok (.dup, 1) := by decide +kernel
theorem dX9_undo_23 : decode cX9_undo 23 = .ok (.getfield 30, 3) := by decide +kernel
theorem dX9_undo_26 : decode cX9_undo 26 = .ok (.iconst 1, 1) := by decide +kernel
theorem dX9_undo_27 : decode cX9_undo 27 = .ok (.isub, 1) := by decide +kernel
theorem dX9_undo_28 : decode cX9_undo 28 = .ok (.putfield 30, 3) := by decide +kernel
theorem dX9_undo_31 : decode cX9_undo 31 = .ok (.iconst 0, 1) := by decide +kernel
theorem dX9_undo_32 : decode cX9_undo 32 = .ok (.istore_n 1, 1) := by decide +kernel
theorem dX9_undo_33 : decode cX9_undo 33 = .ok (.iload_n 1, 1) := by decide +kernel
theorem dX9_undo_34 : decode cX9_undo 34 = .ok (.sipush 225, 3) := by decide +kernel
theorem dX9_undo_37 : decode cX9_undo 37 = .ok (.if_icmp .ge 30, 3) := by decide +kernel
theorem dX9_undo_40 : decode cX9_undo 40 = .ok (.aload_n 0, 1) := by decide +kernel
theorem dX9_undo_41 : decode cX9_undo 41 = .ok (.getfield 7, 3) := by decide +kernel
theorem dX9_undo_44 : decode cX9_undo 44 = .ok (.iload_n 1, 1) := by decide +kernel
theorem dX9_undo_45 : decode cX9_undo 45 = .ok (.aload_n 0, 1) := by decide +kernel
theorem dX9_undo_46 : decode cX9_undo 46 = .ok (.getfield 13, 3) := by decide +kernel
theorem dX9_undo_49 : decode cX9_undo 49 = .ok (.sipush 225, 3) := by decide +kernel
theorem dX9_undo_52 : decode cX9_undo 52 = .ok (.aload_n 0, 1) := by decide +kernel
theorem dX9_undo_53 : decode cX9_undo 53 = .ok (.getfield 30, 3) := by decide +kernel
theorem dX9_undo_56 : decode cX9_undo 56 = .ok (.imul, 1) := by decide +kernel
theorem dX9_undo_57 : decode cX9_undo 57 = .ok (.iload_n 1, 1) := by decide +kernel
theorem dX9_undo_58 : decode cX9_undo 58 = .ok (.iadd, 1) := by decide +kernel
theorem dX9_undo_59 : decode cX9_undo 59 = .ok (.iaload, 1) := by decide +kernel
theorem dX9_undo_60 : decode cX9_undo 60 = .ok (.iastore, 1) := by decide +kernel
theorem dX9_undo_61 : decode cX9_undo 61 = .ok (.iinc 1 1, 3) := by decide +kernel
theorem dX9_undo_64 : decode cX9_undo 64 = .ok (.goto (-31), 3) := by decide +kernel
theorem dX9_undo_67 : decode cX9_undo 67 = .ok (.aload_n 0, 1) := by decide +kernel
theorem dX9_undo_68 : decode cX9_undo 68 = .ok (.getfield 30, 3) := by decide +kernel
theorem dX9_undo_71 : decode cX9_undo 71 = .ok (.ireturn, 1) := by decide +kernel
theorem dX9_keeps_0 : decode cX9_keeps 0 = .ok (.iconst 0, 1) := by decide +kernel
theorem dX9_keeps_1 : decode cX9_keeps 1 = .ok (.istore_n 1, 1) := by decide +kernel
theorem dX9_keeps_2 : decode cX9_keeps 2 = .ok (.iload_n 1, 1) := by decide +kernel
theorem dX9_keeps_3 : decode cX9_keeps 3 = .ok (.sipush 225, 3) := by decide +kernel
theorem dX9_keeps_6 : decode cX9_keeps 6 = .ok (.if_icmp .ge 21, 3) := by decide +kernel
theorem dX9_keeps_9 : decode cX9_keeps 9 = .ok (.aload_n 0, 1) := by decide +kernel
theorem dX9_keeps_10 : decode cX9_keeps 10 = .ok (.getfield 16, 3) := by decide +kernel
theorem dX9_keeps_13 : decode cX9_keeps 13 = .ok (.iload_n 1, 1) := by decide +kernel
theorem dX9_keeps_14 : decode cX9_keeps 14 = .ok (.aload_n 0, 1) := by decide +kernel
theorem dX9_keeps_15 : decode cX9_keeps 15 = .ok (.getfield 7, 3) := by decide +kernel
theorem dX9_keeps_18 : decode cX9_keeps 18 = .ok (.iload_n 1, 1) := by decide +kernel
theorem dX9_keeps_19 : decode cX9_keeps 19 = .ok (.iaload, 1) := by decide +kernel
theorem dX9_keeps_20 : decode cX9_keeps 20 = .ok (.iastore, 1) := by decide +kernel
theorem dX9_keeps_21 : decode cX9_keeps 21 = .ok (.iinc 1 1, 3) := by decide +kernel
theorem dX9_keeps_24 : decode cX9_keeps 24 = .ok (.goto (-22), 3) := by decide +kernel
theorem dX9_keeps_27 : decode cX9_keeps 27 = .ok (.return_, 1) := by decide +kernel
theorem dX9_returns_0 : decode cX9_returns 0 = .ok (.iconst 0, 1) := by decide +kernel
theorem dX9_returns_1 : decode cX9_returns 1 = .ok (.istore_n 1, 1) := by decide +kernel
theorem dX9_returns_2 : decode cX9_returns 2 = .ok (.iload_n 1, 1) := by decide +kernel
theorem dX9_returns_3 : decode cX9_returns 3 = .ok (.sipush 225, 3) := by decide +kernel
theorem dX9_returns_6 : decode cX9_returns 6 = .ok (.if_icmp .ge 21, 3) := by decide +kernel
theorem dX9_returns_9 : decode cX9_returns 9 = .ok (.aload_n 0, 1) := by decide +kernel
theorem dX9_returns_10 : decode cX9_returns 10 = .ok (.getfield 7, 3) := by decide +kernel
theorem dX9_returns_13 : decode cX9_returns 13 = .ok (.iload_n 1, 1) := by decide +kernel
theorem dX9_returns_14 : decode cX9_returns 14 = .ok (.aload_n 0, 1) := by decide +kernel
theorem dX9_returns_15 : decode cX9_returns 15 = .ok (.getfield 16, 3) := by decide +kernel
theorem dX9_returns_18 : decode cX9_returns 18 = .ok (.iload_n 1, 1) := by decide +kernel
theorem dX9_returns_19 : decode cX9_returns 19 = .ok (.iaload, 1) := by decide +kernel
theorem dX9_returns_20 : decode cX9_returns 20 = .ok (.iastore, 1) := by decide +kernel
theorem dX9_returns_21 : decode cX9_returns 21 = .ok (.iinc 1 1, 3) := by decide +kernel
theorem dX9_returns_24 : decode cX9_returns 24 = .ok (.goto (-22), 3) := by decide +kernel
theorem dX9_returns_27 : decode cX9_returns 27 = .ok (.return_, 1) := by decide +kernel
set_option maxRecDepth 20000 in
theorem ggX9_isRoom_X9_within : GoodIn wsX9_isRoom wsX9_within := goodIn_r _ [5] (by decide +kernel) (by decide +kernel)
set_option maxRecDepth 20000 in
theorem gX9_isRoom_X9_within : GoodIn wsX9_isRoom (va_wsS RX9 37 yX9_within wsX9_within) := goodIn_app (goodIn_of _ (by decide +kernel)) ggX9_isRoom_X9_within
theorem dX9_isRoom_0 : decode cX9_isRoom 0 = .ok (.iload_n 1, 1) := by decide +kernel
theorem dX9_isRoom_1 : decode cX9_isRoom 1 = .ok (.iconst 0, 1) := by decide +kernel
theorem dX9_isRoom_2 : decode cX9_isRoom 2 = .ok (.aload_n 0, 1) := by decide +kernel
theorem dX9_isRoom_3 : decode cX9_isRoom 3 = .ok (.getfield 7, 3) := by decide +kernel
theorem dX9_isRoom_6 : decode cX9_isRoom 6 = .ok (.bipush 6, 2) := by decide +kernel
theorem dX9_isRoom_8 : decode cX9_isRoom 8 = .ok (.iaload, 1) := by decide +kernel
theorem dX9_isRoom_9 : decode cX9_isRoom 9 = .ok (.iconst 1, 1) := by decide +kernel
theorem dX9_isRoom_10 : decode cX9_isRoom 10 = .ok (.isub, 1) := by decide +kernel
theorem dX9_isRoom_11 : decode cX9_isRoom 11 = .ok (.invokestatic 37, 3) := by decide +kernel
theorem dX9_isRoom_14 : decode cX9_isRoom 14 = .ok (.ireturn, 1) := by decide +kernel
theorem dX9_strength_0 : decode cX9_strength 0 = .ok (.aload_n 0, 1) := by decide +kernel
theorem dX9_strength_1 : decode cX9_strength 1 = .ok (.getfield 7, 3) := by decide +kernel
theorem dX9_strength_4 : decode cX9_strength 4 = .ok (.bipush 8, 2) := by decide +kernel
theorem dX9_strength_6 : decode cX9_strength 6 = .ok (.iaload, 1) := by decide +kernel
theorem dX9_strength_7 : decode cX9_strength 7 = .ok (.ifCond .ne 7, 3) := by decide +kernel
theorem dX9_strength_10 : decode cX9_strength 10 = .ok (.iconst 0, 1) := by decide +kernel
theorem dX9_strength_11 : decode cX9_strength 11 = .ok (.goto 15, 3) := by decide +kernel
theorem dX9_strength_14 : decode cX9_strength 14 = .ok (.iconst 1, 1) := by decide +kernel
theorem dX9_strength_15 : decode cX9_strength 15 = .ok (.aload_n 0, 1) := by decide +kernel
theorem dX9_strength_16 : decode cX9_strength 16 = .ok (.getfield 7, 3) := by decide +kernel
theorem dX9_strength_19 : decode cX9_strength 19 = .ok (.bipush 8, 2) := by decide +kernel
theorem dX9_strength_21 : decode cX9_strength 21 = .ok (.iaload, 1) := by decide +kernel
theorem dX9_strength_22 : decode cX9_strength 22 = .ok (.bipush 25, 2) := by decide +kernel
theorem dX9_strength_24 : decode cX9_strength 24 = .ok (.idiv, 1) := by decide +kernel
theorem dX9_strength_25 : decode cX9_strength 25 = .ok (.iadd, 1) := by decide +kernel
theorem dX9_strength_26 : decode cX9_strength 26 = .ok (.ireturn, 1) := by decide +kernel
theorem dX9_draft_0 : decode cX9_draft 0 = .ok (.aload_n 0, 1) := by decide +kernel
theorem dX9_draft_1 : decode cX9_draft 1 = .ok (.getfield 7, 3) := by decide +kernel
theorem dX9_draft_4 : decode cX9_draft 4 = .ok (.iconst 5, 1) := by decide +kernel
theorem dX9_draft_5 : decode cX9_draft 5 = .ok (.iaload, 1) := by decide +kernel
theorem dX9_draft_6 : decode cX9_draft 6 = .ok (.aload_n 0, 1) := by decide +kernel
theorem dX9_draft_7 : decode cX9_draft 7 = .ok (.getfield 7, 3) := by decide +kernel
theorem dX9_draft_10 : decode cX9_draft 10 = .ok (.iconst 4, 1) := by decide +kernel
theorem dX9_draft_11 : decode cX9_draft 11 = .ok (.iaload, 1) := by decide +kernel
theorem dX9_draft_12 : decode cX9_draft 12 = .ok (.imul, 1) := by decide +kernel
theorem dX9_draft_13 : decode cX9_draft 13 = .ok (.bipush 8, 2) := by decide +kernel
theorem dX9_draft_15 : decode cX9_draft 15 = .ok (.idiv, 1) := by decide +kernel
theorem dX9_draft_16 : decode cX9_draft 16 = .ok (.aload_n 0, 1) := by decide +kernel
theorem dX9_draft_17 : decode cX9_draft 17 = .ok (.getfield 7, 3) := by decide +kernel
theorem dX9_draft_20 : decode cX9_draft 20 = .ok (.iconst 0, 1) := by decide +kernel
theorem dX9_draft_21 : decode cX9_draft 21 = .ok (.iaload, 1) := by decide +kernel
theorem dX9_draft_22 : decode cX9_draft 22 = .ok (.isub, 1) := by decide +kernel
theorem dX9_draft_23 : decode cX9_draft 23 = .ok (.istore_n 1, 1) := by decide +kernel
theorem dX9_draft_24 : decode cX9_draft 24 = .ok (.iload_n 1, 1) := by decide +kernel
theorem dX9_draft_25 : decode cX9_draft 25 = .ok (.ifCond .ge 7, 3) := by decide +kernel
theorem dX9_draft_28 : decode cX9_draft 28 = .ok (.iconst 0, 1) := by decide +kernel
theorem dX9_draft_29 : decode cX9_draft 29 = .ok (.goto 4, 3) := by decide +kernel
theorem dX9_draft_32 : decode cX9_draft 32 = .ok (.iload_n 1, 1) := by decide +kernel
theorem dX9_draft_33 : decode cX9_draft 33 = .ok (.ireturn, 1) := by decide +kernel
theorem dX9_isDoorOpen_0 : decode cX9_isDoorOpen 0 = .ok (.aload_n 0, 1) := by decide +kernel
theorem dX9_isDoorOpen_1 : decode cX9_isDoorOpen 1 = .ok (.getfield 7, 3) := by decide +kernel
theorem dX9_isDoorOpen_4 : decode cX9_isDoorOpen 4 = .ok (.bipush 32, 2) := by decide +kernel
theorem dX9_isDoorOpen_6 : decode cX9_isDoorOpen 6 = .ok (.iconst 5, 1) := by decide +kernel
theorem dX9_isDoorOpen_7 : decode cX9_isDoorOpen 7 = .ok (.iload_n 1, 1) := by decide +kernel
theorem dX9_isDoorOpen_8 : decode cX9_isDoorOpen 8 = .ok (.imul, 1) := by decide +kernel
theorem dX9_isDoorOpen_9 : decode cX9_isDoorOpen 9 = .ok (.iadd, 1) := by decide +kernel
theorem dX9_isDoorOpen_10 : decode cX9_isDoorOpen 10 = .ok (.iload_n 2, 1) := by decide +kernel
theorem dX9_isDoorOpen_11 : decode cX9_isDoorOpen 11 = .ok (.iadd, 1) := by decide +kernel
theorem dX9_isDoorOpen_12 : decode cX9_isDoorOpen 12 = .ok (.iaload, 1) := by decide +kernel
theorem dX9_isDoorOpen_13 : decode cX9_isDoorOpen 13 = .ok (.iconst 1, 1) := by decide +kernel
theorem dX9_isDoorOpen_14 : decode cX9_isDoorOpen 14 = .ok (.if_icmp .ne 7, 3) := by decide +kernel
theorem dX9_isDoorOpen_17 : decode cX9_isDoorOpen 17 = .ok (.iconst 1, 1) := by decide +kernel
theorem dX9_isDoorOpen_18 : decode cX9_isDoorOpen 18 = .ok (.goto 4, 3) := by decide +kernel
theorem dX9_isDoorOpen_21 : decode cX9_isDoorOpen 21 = .ok (.iconst 0, 1) := by decide +kernel
theorem dX9_isDoorOpen_22 : decode cX9_isDoorOpen 22 = .ok (.ireturn, 1) := by decide +kernel
theorem dX9_sets_0 : decode cX9_sets 0 = .ok (.aload_n 0, 1) := by decide +kernel
theorem dX9_sets_1 : decode cX9_sets 1 = .ok (.getfield 7, 3) := by decide +kernel
theorem dX9_sets_4 : decode cX9_sets 4 = .ok (.bipush 32, 2) := by decide +kernel
theorem dX9_sets_6 : decode cX9_sets 6 = .ok (.iconst 5, 1) := by decide +kernel
theorem dX9_sets_7 : decode cX9_sets 7 = .ok (.iload_n 1, 1) := by decide +kernel
theorem dX9_sets_8 : decode cX9_sets 8 = .ok (.imul, 1) := by decide +kernel
theorem dX9_sets_9 : decode cX9_sets 9 = .ok (.iadd, 1) := by decide +kernel
theorem dX9_sets_10 : decode cX9_sets 10 = .ok (.iload_n 2, 1) := by decide +kernel
theorem dX9_sets_11 : decode cX9_sets 11 = .ok (.iadd, 1) := by decide +kernel
theorem dX9_sets_12 : decode cX9_sets 12 = .ok (.iload_n 3, 1) := by decide +kernel
theorem dX9_sets_13 : decode cX9_sets 13 = .ok (.iastore, 1) := by decide +kernel
theorem dX9_sets_14 : decode cX9_sets 14 = .ok (.aload_n 0, 1) := by decide +kernel
theorem dX9_sets_15 : decode cX9_sets 15 = .ok (.getfield 7, 3) := by decide +kernel
theorem dX9_sets_18 : decode cX9_sets 18 = .ok (.bipush 32, 2) := by decide +kernel
theorem dX9_sets_20 : decode cX9_sets 20 = .ok (.iconst 5, 1) := by decide +kernel
theorem dX9_sets_21 : decode cX9_sets 21 = .ok (.iload_n 2, 1) := by decide +kernel
theorem dX9_sets_22 : decode cX9_sets 22 = .ok (.imul, 1) := by decide +kernel
theorem dX9_sets_23 : decode cX9_sets 23 = .ok (.iadd, 1) := by decide +kernel
theorem dX9_sets_24 : decode cX9_sets 24 = .ok (.iload_n 1, 1) := by decide +kernel
theorem dX9_sets_25 : decode cX9_sets 25 = .ok (.iadd, 1) := by decide +kernel
theorem dX9_sets_26 : decode cX9_sets 26 = .ok (.iload_n 3, 1) := by decide +kernel
theorem dX9_sets_27 : decode cX9_sets 27 = .ok (.iastore, 1) := by decide +kernel
theorem dX9_sets_28 : decode cX9_sets 28 = .ok (.return_, 1) := by decide +kernel
theorem dX9_its_0 : decode cX9_its 0 = .ok (.aload_n 0, 1) := by decide +kernel
theorem dX9_its_1 : decode cX9_its 1 = .ok (.getfield 7, 3) := by decide +kernel
theorem dX9_its_4 : decode cX9_its 4 = .ok (.bipush 57, 2) := by decide +kernel
theorem dX9_its_6 : decode cX9_its 6 = .ok (.bipush 7, 2) := by decide +kernel
theorem dX9_its_8 : decode cX9_its 8 = .ok (.iload_n 1, 1) := by decide +kernel
theorem dX9_its_9 : decode cX9_its 9 = .ok (.imul, 1) := by decide +kernel
theorem dX9_its_10 : decode cX9_its 10 = .ok (.iadd, 1) := by decide +kernel
theorem dX9_its_11 : decode cX9_its 11 = .ok (.iload_n 2, 1) := by decide +kernel
theorem dX9_its_12 : decode cX9_its 12 = .ok (.iadd, 1) := by decide +kernel
theorem dX9_its_13 : decode cX9_its 13 = .ok (.iaload, 1) := by decide +kernel
theorem dX9_its_14 : decode cX9_its 14 = .ok (.ireturn, 1) := by decide +kernel
set_option maxRecDepth 20000 in
theorem ggX9_isExcited_X9_its : GoodIn wsX9_isExcited wsX9_its := goodIn_r _ [6, 1, 15, 16, 17, 18, 19, 20, 21] (by decide +kernel) (by decide +kernel)
set_option maxRecDepth 20000 in
theorem gX9_isExcited_X9_its : GoodIn wsX9_isExcited (wsV RX9 41 RX9 yX9_its wsX9_its) := goodIn_app (goodIn_of _ (by decide +kernel)) ggX9_isExcited_X9_its
set_option maxRecDepth 20000 in
theorem ggX9_isExcited_X9_draft : GoodIn wsX9_isExcited wsX9_draft := goodIn_r _ [10, 1, 15, 16, 17, 18, 19, 20, 21] (by decide +kernel) (by decide +kernel)
set_option maxRecDepth 20000 in
theorem gX9_isExcited_X9_draft : GoodIn wsX9_isExcited (wsV RX9 45 RX9 yX9_draft wsX9_draft) := goodIn_app (goodIn_of _ (by decide +kernel)) ggX9_isExcited_X9_draft
set_option maxRecDepth 20000 in
theorem ggX9_isExcited_X9_strength : GoodIn wsX9_isExcited wsX9_strength := goodIn_r _ [14, 1, 15, 16, 17, 18, 19, 20, 21] (by decide +kernel) (by decide +kernel)
set_option maxRecDepth 20000 in
theorem gX9_isExcited_X9_strength : GoodIn wsX9_isExcited (wsV RX9 49 RX9 yX9_strength wsX9_strength) := goodIn_app (goodIn_of _ (by decide +kernel)) ggX9_isExcited_X9_strength
theorem dX9_isExcited_0 : decode cX9_isExcited 0 = .ok (.aload_n 0, 1) := by decide +kernel
theorem dX9_isExcited_1 : decode cX9_isExcited 1 = .ok (.iload_n 1, 1) := by decide +kernel
theorem dX9_isExcited_2 : decode cX9_isExcited 2 = .ok (.iconst 2, 1) := by decide +kernel
theorem dX9_isExcited_3 : decode cX9_isExcited 3 = .ok (.invokevirtual 41, 3) := by decide +kernel
theorem dX9_isExcited_6 : decode cX9_isExcited 6 = .ok (.istore_n 2, 1) := by decide +kernel
theorem dX9_isExcited_7 : decode cX9_isExcited 7 = .ok (.aload_n 0, 1) := by decide +kernel
theorem dX9_isExcited_8 : decode cX9_isExcited 8 = .ok (.iload_n 1, 1) := by decide +kernel
theorem dX9_isExcited_9 : decode cX9_isExcited 9 = .ok (.iconst 1, 1) := by decide +kernel
theorem dX9_isExcited_10 : decode cX9_isExcited 10 = .ok (.invokevirtual 41, 3) := by decide +kernel
theorem dX9_isExcited_13 : decode cX9_isExcited 13 = .ok (.lookupswitch 72 #[(0, 27), (1, 51)], 27) := by decide +kernel
theorem dX9_isExcited_40 : decode cX9_isExcited 40 = .ok (.aload_n 0, 1) := by decide +kernel
theorem dX9_isExcited_41 : decode cX9_isExcited 41 = .ok (.getfield 7, 3) := by decide +kernel
theorem dX9_isExcited_44 : decode cX9_isExcited 44 = .ok (.bipush 20, 2) := by decide +kernel
theorem dX9_isExcited_46 : decode cX9_isExcited 46 = .ok (.aload_n 0, 1) := by decide +kernel
theorem dX9_isExcited_47 : decode cX9_isExcited 47 = .ok (.iload_n 1, 1) := by decide +kernel
theorem dX9_isExcited_48 : decode cX9_isExcited 48 = .ok (.iconst 0, 1) := by decide +kernel
theorem dX9_isExcited_49 : decode cX9_isExcited 49 = .ok (.invokevirtual 41, 3) := by decide +kernel
theorem dX9_isExcited_52 : decode cX9_isExcited 52 = .ok (.iadd, 1) := by decide +kernel
theorem dX9_isExcited_53 : decode cX9_isExcited 53 = .ok (.iaload, 1) := by decide +kernel
theorem dX9_isExcited_54 : decode cX9_isExcited 54 = .ok (.iload_n 2, 1) := by decide +kernel
theorem dX9_isExcited_55 : decode cX9_isExcited 55 = .ok (.if_icmp .lt 7, 3) := by decide +kernel
theorem dX9_isExcited_58 : decode cX9_isExcited 58 = .ok (.iconst 1, 1) := by decide +kernel
theorem dX9_isExcited_59 : decode cX9_isExcited 59 = .ok (.goto 4, 3) := by decide +kernel
theorem dX9_isExcited_62 : decode cX9_isExcited 62 = .ok (.iconst 0, 1) := by decide +kernel
theorem dX9_isExcited_63 : decode cX9_isExcited 63 = .ok (.ireturn, 1) := by decide +kernel
theorem dX9_isExcited_64 : decode cX9_isExcited 64 = .ok (.aload_n 0, 1) := by decide +kernel
theorem dX9_isExcited_65 : decode cX9_isExcited 65 = .ok (.invokevirtual 45, 3) := by decide +kernel
theorem dX9_isExcited_68 : decode cX9_isExcited 68 = .ok (.iload_n 2, 1) := by decide +kernel
theorem dX9_isExcited_69 : decode cX9_isExcited 69 = .ok (.if_icmp .ge 14, 3) := by decide +kernel
theorem dX9_isExcited_72 : decode cX9_isExcited 72 = .ok (.aload_n 0, 1) := by decide +kernel
theorem dX9_isExcited_73 : decode cX9_isExcited 73 = .ok (.invokevirtual 49, 3) := by decide +kernel
theorem dX9_isExcited_76 : decode cX9_isExcited 76 = .ok (.ifCond .le 7, 3) := by decide +kernel
theorem dX9_isExcited_79 : decode cX9_isExcited 79 = .ok (.iconst 1, 1) := by decide +kernel
theorem dX9_isExcited_80 : decode cX9_isExcited 80 = .ok (.goto 4, 3) := by decide +kernel
theorem dX9_isExcited_83 : decode cX9_isExcited 83 = .ok (.iconst 0, 1) := by decide +kernel
theorem dX9_isExcited_84 : decode cX9_isExcited 84 = .ok (.ireturn, 1) := by decide +kernel
theorem dX9_isExcited_85 : decode cX9_isExcited 85 = .ok (.aload_n 0, 1) := by decide +kernel
theorem dX9_isExcited_86 : decode cX9_isExcited 86 = .ok (.getfield 7, 3) := by decide +kernel
theorem dX9_isExcited_89 : decode cX9_isExcited 89 = .ok (.iconst 5, 1) := by decide +kernel
theorem dX9_isExcited_90 : decode cX9_isExcited 90 = .ok (.iaload, 1) := by decide +kernel
theorem dX9_isExcited_91 : decode cX9_isExcited 91 = .ok (.iload_n 2, 1) := by decide +kernel
theorem dX9_isExcited_92 : decode cX9_isExcited 92 = .ok (.if_icmp .lt 7, 3) := by decide +kernel
theorem dX9_isExcited_95 : decode cX9_isExcited 95 = .ok (.iconst 1, 1) := by decide +kernel
theorem dX9_isExcited_96 : decode cX9_isExcited 96 = .ok (.goto 4, 3) := by decide +kernel
theorem dX9_isExcited_99 : decode cX9_isExcited 99 = .ok (.iconst 0, 1) := by decide +kernel
theorem dX9_isExcited_100 : decode cX9_isExcited 100 = .ok (.ireturn, 1) := by decide +kernel
set_option maxRecDepth 20000 in
theorem ggX9_votes_X9_its : GoodIn wsX9_votes wsX9_its := goodIn_r _ [5, 6, 7, 8, 9, 10, 11, 12, 13] (by decide +kernel) (by decide +kernel)
set_option maxRecDepth 20000 in
theorem gX9_votes_X9_its : GoodIn wsX9_votes (wsV RX9 41 RX9 yX9_its wsX9_its) := goodIn_app (goodIn_of _ (by decide +kernel)) ggX9_votes_X9_its
theorem dX9_votes_0 : decode cX9_votes 0 = .ok (.aload_n 0, 1) := by decide +kernel
theorem dX9_votes_1 : decode cX9_votes 1 = .ok (.iload_n 1, 1) := by decide +kernel
theorem dX9_votes_2 : decode cX9_votes 2 = .ok (.iconst 5, 1) := by decide +kernel
theorem dX9_votes_3 : decode cX9_votes 3 = .ok (.invokevirtual 41, 3) := by decide +kernel
theorem dX9_votes_6 : decode cX9_votes 6 = .ok (.iconst 2, 1) := by decide +kernel
theorem dX9_votes_7 : decode cX9_votes 7 = .ok (.if_icmp .eq 28, 3) := by decide +kernel
theorem dX9_votes_10 : decode cX9_votes 10 = .ok (.aload_n 0, 1) := by decide +kernel
theorem dX9_votes_11 : decode cX9_votes 11 = .ok (.iload_n 1, 1) := by decide +kernel
theorem dX9_votes_12 : decode cX9_votes 12 = .ok (.iconst 5, 1) := by decide +kernel
theorem dX9_votes_13 : decode cX9_votes 13 = .ok (.invokevirtual 41, 3) := by decide +kernel
theorem dX9_votes_16 : decode cX9_votes 16 = .ok (.ifCond .ne 23, 3) := by decide +kernel
theorem dX9_votes_19 : decode cX9_votes 19 = .ok (.aload_n 0, 1) := by decide +kernel
theorem dX9_votes_20 : decode cX9_votes 20 = .ok (.iload_n 1, 1) := by decide +kernel
theorem dX9_votes_21 : decode cX9_votes 21 = .ok (.bipush 6, 2) := by decide +kernel
theorem dX9_votes_23 : decode cX9_votes 23 = .ok (.invokevirtual 41, 3) := by decide +kernel
theorem dX9_votes_26 : decode cX9_votes 26 = .ok (.aload_n 0, 1) := by decide +kernel
theorem dX9_votes_27 : decode cX9_votes 27 = .ok (.iload_n 1, 1) := by decide +kernel
theorem dX9_votes_28 : decode cX9_votes 28 = .ok (.iconst 3, 1) := by decide +kernel
theorem dX9_votes_29 : decode cX9_votes 29 = .ok (.invokevirtual 41, 3) := by decide +kernel
theorem dX9_votes_32 : decode cX9_votes 32 = .ok (.if_icmp .le 7, 3) := by decide +kernel
theorem dX9_votes_35 : decode cX9_votes 35 = .ok (.iconst 1, 1) := by decide +kernel
theorem dX9_votes_36 : decode cX9_votes 36 = .ok (.goto 4, 3) := by decide +kernel
theorem dX9_votes_39 : decode cX9_votes 39 = .ok (.iconst 0, 1) := by decide +kernel
theorem dX9_votes_40 : decode cX9_votes 40 = .ok (.ireturn, 1) := by decide +kernel
set_option maxRecDepth 20000 in
theorem ggX9_votersIn_X9_its : GoodIn wsX9_votersIn wsX9_its := goodIn_r _ [6, 1, 11, 12, 13, 14, 15, 16, 17] (by decide +kernel) (by decide +kernel)
set_option maxRecDepth 20000 in
theorem gX9_votersIn_X9_its : GoodIn wsX9_votersIn (wsV RX9 41 RX9 yX9_its wsX9_its) := goodIn_app (goodIn_of _ (by decide +kernel)) ggX9_votersIn_X9_its
set_option maxRecDepth 20000 in
theorem ggX9_votersIn_X9_votes : GoodIn wsX9_votersIn wsX9_votes := goodIn_r _ [10, 2, 3, 4, 5, 6, 1, 11, 12, 13, 14, 15, 16, 17] (by decide +kernel) (by decide +kernel)
set_option maxRecDepth 20000 in
theorem gX9_votersIn_X9_votes : GoodIn wsX9_votersIn (wsV RX9 52 RX9 yX9_votes wsX9_votes) := goodIn_app (goodIn_of _ (by decide +kernel)) ggX9_votersIn_X9_votes
theorem dX9_votersIn_0 : decode cX9_votersIn 0 = .ok (.iconst 0, 1) := by decide +kernel
theorem dX9_votersIn_1 : decode cX9_votersIn 1 = .ok (.istore_n 2, 1) := by decide +kernel
theorem dX9_votersIn_2 : decode cX9_votersIn 2 = .ok (.iconst 0, 1) := by decide +kernel
theorem dX9_votersIn_3 : decode cX9_votersIn 3 = .ok (.istore_n 3, 1) := by decide +kernel
theorem dX9_votersIn_4 : decode cX9_votersIn 4 = .ok (.iload_n 3, 1) := by decide +kernel
theorem dX9_votersIn_5 : decode cX9_votersIn 5 = .ok (.aload_n 0, 1) := by decide +kernel
theorem dX9_votersIn_6 : decode cX9_votersIn 6 = .ok (.getfield 7, 3) := by decide +kernel
theorem dX9_votersIn_9 : decode cX9_votersIn 9 = .ok (.bipush 10, 2) := by decide +kernel
theorem dX9_votersIn_11 : decode cX9_votersIn 11 = .ok (.iaload, 1) := by decide +kernel
theorem dX9_votersIn_12 : decode cX9_votersIn 12 = .ok (.if_icmp .ge 37, 3) := by decide +kernel
theorem dX9_votersIn_15 : decode cX9_votersIn 15 = .ok (.iload_n 2, 1) := by decide +kernel
theorem dX9_votersIn_16 : decode cX9_votersIn 16 = .ok (.aload_n 0, 1) := by decide +kernel
theorem dX9_votersIn_17 : decode cX9_votersIn 17 = .ok (.iload_n 3, 1) := by decide +kernel
theorem dX9_votersIn_18 : decode cX9_votersIn 18 = .ok (.iconst 0, 1) := by decide +kernel
theorem dX9_votersIn_19 : decode cX9_votersIn 19 = .ok (.invokevirtual 41, 3) := by decide +kernel
theorem dX9_votersIn_22 : decode cX9_votersIn 22 = .ok (.iload_n 1, 1) := by decide +kernel
theorem dX9_votersIn_23 : decode cX9_votersIn 23 = .ok (.if_icmp .ne 17, 3) := by decide +kernel
theorem dX9_votersIn_26 : decode cX9_votersIn 26 = .ok (.aload_n 0, 1) := by decide +kernel
theorem dX9_votersIn_27 : decode cX9_votersIn 27 = .ok (.iload_n 3, 1) := by decide +kernel
theorem dX9_votersIn_28 : decode cX9_votersIn 28 = .ok (.invokevirtual 52, 3) := by decide +kernel
theorem dX9_votersIn_31 : decode cX9_votersIn 31 = .ok (.ifCond .eq 9, 3) := by decide +kernel
theorem dX9_votersIn_34 : decode cX9_votersIn 34 = .ok (.iconst 1, 1) := by decide +kernel
theorem dX9_votersIn_35 : decode cX9_votersIn 35 = .ok (.iload_n 3, 1) := by decide +kernel
theorem dX9_votersIn_36 : decode cX9_votersIn 36 = .ok (.ishl, 1) := by decide +kernel
theorem dX9_votersIn_37 : decode cX9_votersIn 37 = .ok (.goto 4, 3) := by decide +kernel
theorem dX9_votersIn_40 : decode cX9_votersIn 40 = .ok (.iconst 0, 1) := by decide +kernel
theorem dX9_votersIn_41 : decode cX9_votersIn 41 = .ok (.ior, 1) := by decide +kernel
theorem dX9_votersIn_42 : decode cX9_votersIn 42 = .ok (.istore_n 2, 1) := by decide +kernel
theorem dX9_votersIn_43 : decode cX9_votersIn 43 = .ok (.iinc 3 1, 3) := by decide +kernel
theorem dX9_votersIn_46 : decode cX9_votersIn 46 = .ok (.goto (-42), 3) := by decide +kernel
theorem dX9_votersIn_49 : decode cX9_votersIn 49 = .ok (.iload_n 2, 1) := by decide +kernel
theorem dX9_votersIn_50 : decode cX9_votersIn 50 = .ok (.ireturn, 1) := by decide +kernel
set_option maxRecDepth 20000 in
theorem ggX9_weightOf_X9_its : GoodIn wsX9_weightOf wsX9_its := goodIn_r _ [6, 1, 7, 8, 9, 10, 11, 12, 13] (by decide +kernel) (by decide +kernel)
set_option maxRecDepth 20000 in
theorem gX9_weightOf_X9_its : GoodIn wsX9_weightOf (wsV RX9 41 RX9 yX9_its wsX9_its) := goodIn_app (goodIn_of _ (by decide +kernel)) ggX9_weightOf_X9_its
theorem dX9_weightOf_0 : decode cX9_weightOf 0 = .ok (.iconst 0, 1) := by decide +kernel
theorem dX9_weightOf_1 : decode cX9_weightOf 1 = .ok (.istore_n 2, 1) := by decide +kernel
theorem dX9_weightOf_2 : decode cX9_weightOf 2 = .ok (.iconst 0, 1) := by decide +kernel
theorem dX9_weightOf_3 : decode cX9_weightOf 3 = .ok (.istore_n 3, 1) := by decide +kernel
theorem dX9_weightOf_4 : decode cX9_weightOf 4 = .ok (.iload_n 3, 1) := by decide +kernel
theorem dX9_weightOf_5 : decode cX9_weightOf 5 = .ok (.aload_n 0, 1) := by decide +kernel
theorem dX9_weightOf_6 : decode cX9_weightOf 6 = .ok (.getfield 7, 3) := by decide +kernel
theorem dX9_weightOf_9 : decode cX9_weightOf 9 = .ok (.bipush 10, 2) := by decide +kernel
theorem dX9_weightOf_11 : decode cX9_weightOf 11 = .ok (.iaload, 1) := by decide +kernel
theorem dX9_weightOf_12 : decode cX9_weightOf 12 = .ok (.if_icmp .ge 31, 3) := by decide +kernel
theorem dX9_weightOf_15 : decode cX9_weightOf 15 = .ok (.iload_n 2, 1) := by decide +kernel
theorem dX9_weightOf_16 : decode cX9_weightOf 16 = .ok (.iload_n 1, 1) := by decide +kernel
theorem dX9_weightOf_17 : decode cX9_weightOf 17 = .ok (.iload_n 3, 1) := by decide +kernel
theorem dX9_weightOf_18 : decode cX9_weightOf 18 = .ok (.ishr, 1) := by decide +kernel
theorem dX9_weightOf_19 : decode cX9_weightOf 19 = .ok (.iconst 1, 1) := by decide +kernel
theorem dX9_weightOf_20 : decode cX9_weightOf 20 = .ok (.iand, 1) := by decide +kernel
theorem dX9_weightOf_21 : decode cX9_weightOf 21 = .ok (.iconst 1, 1) := by decide +kernel
theorem dX9_weightOf_22 : decode cX9_weightOf 22 = .ok (.if_icmp .ne 12, 3) := by decide +kernel
theorem dX9_weightOf_25 : decode cX9_weightOf 25 = .ok (.aload_n 0, 1) := by decide +kernel
theorem dX9_weightOf_26 : decode cX9_weightOf 26 = .ok (.iload_n 3, 1) := by decide +kernel
theorem dX9_weightOf_27 : decode cX9_weightOf 27 = .ok (.iconst 4, 1) := by decide +kernel
theorem dX9_weightOf_28 : decode cX9_weightOf 28 = .ok (.invokevirtual 41, 3) := by decide +kernel
theorem dX9_weightOf_31 : decode cX9_weightOf 31 = .ok (.goto 4, 3) := by decide +kernel
theorem dX9_weightOf_34 : decode cX9_weightOf 34 = .ok (.iconst 0, 1) := by decide +kernel
theorem dX9_weightOf_35 : decode cX9_weightOf 35 = .ok (.iadd, 1) := by decide +kernel
theorem dX9_weightOf_36 : decode cX9_weightOf 36 = .ok (.istore_n 2, 1) := by decide +kernel
theorem dX9_weightOf_37 : decode cX9_weightOf 37 = .ok (.iinc 3 1, 3) := by decide +kernel
theorem dX9_weightOf_40 : decode cX9_weightOf 40 = .ok (.goto (-36), 3) := by decide +kernel
theorem dX9_weightOf_43 : decode cX9_weightOf 43 = .ok (.iload_n 2, 1) := by decide +kernel
theorem dX9_weightOf_44 : decode cX9_weightOf 44 = .ok (.ireturn, 1) := by decide +kernel
set_option maxRecDepth 20000 in
theorem ggX9_isAgreed_X9_votersIn : GoodIn wsX9_isAgreed wsX9_votersIn := goodIn_r _ [6, 1, 7, 8, 9, 5, 10, 11, 12, 13, 14, 19, 20, 21, 22, 23, 24, 25] (by decide +kernel) (by decide +kernel)
set_option maxRecDepth 20000 in
theorem gX9_isAgreed_X9_votersIn : GoodIn wsX9_isAgreed (wsV RX9 55 RX9 yX9_votersIn wsX9_votersIn) := goodIn_app (goodIn_of _ (by decide +kernel)) ggX9_isAgreed_X9_votersIn
set_option maxRecDepth 20000 in
theorem ggX9_isAgreed_X9_weightOf : GoodIn wsX9_isAgreed wsX9_weightOf := goodIn_r _ [18, 1, 7, 8, 9, 5, 10, 19, 20, 21, 22, 23, 24, 25] (by decide +kernel) (by decide +kernel)
set_option maxRecDepth 20000 in
theorem gX9_isAgreed_X9_weightOf : GoodIn wsX9_isAgreed (wsV RX9 59 RX9 yX9_weightOf wsX9_weightOf) := goodIn_app (goodIn_of _ (by decide +kernel)) ggX9_isAgreed_X9_weightOf
theorem dX9_isAgreed_0 : decode cX9_isAgreed 0 = .ok (.aload_n 0, 1) := by decide +kernel
theorem dX9_isAgreed_1 : decode cX9_isAgreed 1 = .ok (.iload_n 1, 1) := by decide +kernel
theorem dX9_isAgreed_2 : decode cX9_isAgreed 2 = .ok (.invokevirtual 55, 3) := by decide +kernel
theorem dX9_isAgreed_5 : decode cX9_isAgreed 5 = .ok (.istore_n 2, 1) := by decide +kernel
theorem dX9_isAgreed_6 : decode cX9_isAgreed 6 = .ok (.iconst 0, 1) := by decide +kernel
theorem dX9_isAgreed_7 : decode cX9_isAgreed 7 = .ok (.istore_n 3, 1) := by decide +kernel
theorem dX9_isAgreed_8 : decode cX9_isAgreed 8 = .ok (.iconst 0, 1) := by decide +kernel
theorem dX9_isAgreed_9 : decode cX9_isAgreed 9 = .ok (.istore 4, 2) := by decide +kernel
theorem dX9_isAgreed_11 : decode cX9_isAgreed 11 = .ok (.iload 4, 2) := by decide +kernel
theorem dX9_isAgreed_13 : decode cX9_isAgreed 13 = .ok (.bipush 8, 2) := by decide +kernel
theorem dX9_isAgreed_15 : decode cX9_isAgreed 15 = .ok (.if_icmp .ge 18, 3) := by decide +kernel
theorem dX9_isAgreed_18 : decode cX9_isAgreed 18 = .ok (.iload_n 3, 1) := by decide +kernel
theorem dX9_isAgreed_19 : decode cX9_isAgreed 19 = .ok (.iload_n 2, 1) := by decide +kernel
theorem dX9_isAgreed_20 : decode cX9_isAgreed 20 = .ok (.iload 4, 2) := by decide +kernel
theorem dX9_isAgreed_22 : decode cX9_isAgreed 22 = .ok (.ishr, 1) := by decide +kernel
theorem dX9_isAgreed_23 : decode cX9_isAgreed 23 = .ok (.iconst 1, 1) := by decide +kernel
theorem dX9_isAgreed_24 : decode cX9_isAgreed 24 = .ok (.iand, 1) := by decide +kernel
theorem dX9_isAgreed_25 : decode cX9_isAgreed 25 = .ok (.iadd, 1) := by decide +kernel
theorem dX9_isAgreed_26 : decode cX9_isAgreed 26 = .ok (.istore_n 3, 1) := by decide +kernel
theorem dX9_isAgreed_27 : decode cX9_isAgreed 27 = .ok (.iinc 4 1, 3) := by decide +kernel
theorem dX9_isAgreed_30 : decode cX9_isAgreed 30 = .ok (.goto (-19), 3) := by decide +kernel
theorem dX9_isAgreed_33 : decode cX9_isAgreed 33 = .ok (.iload_n 3, 1) := by decide +kernel
theorem dX9_isAgreed_34 : decode cX9_isAgreed 34 = .ok (.iconst 2, 1) := by decide +kernel
theorem dX9_isAgreed_35 : decode cX9_isAgreed 35 = .ok (.if_icmp .lt 21, 3) := by decide +kernel
theorem dX9_isAgreed_38 : decode cX9_isAgreed 38 = .ok (.aload_n 0, 1) := by decide +kernel
theorem dX9_isAgreed_39 : decode cX9_isAgreed 39 = .ok (.iload_n 2, 1) := by decide +kernel
theorem dX9_isAgreed_40 : decode cX9_isAgreed 40 = .ok (.invokevirtual 59, 3) := by decide +kernel
theorem dX9_isAgreed_43 : decode cX9_isAgreed 43 = .ok (.aload_n 0, 1) := by decide +kernel
theorem dX9_isAgreed_44 : decode cX9_isAgreed 44 = .ok (.getfield 7, 3) := by decide +kernel
theorem dX9_isAgreed_47 : decode cX9_isAgreed 47 = .ok (.iconst 1, 1) := by decide +kernel
theorem dX9_isAgreed_48 : decode cX9_isAgreed 48 = .ok (.iaload, 1) := by decide +kernel
theorem dX9_isAgreed_49 : decode cX9_isAgreed 49 = .ok (.if_icmp .lt 7, 3) := by decide +kernel
theorem dX9_isAgreed_52 : decode cX9_isAgreed 52 = .ok (.iconst 1, 1) := by decide +kernel
theorem dX9_isAgreed_53 : decode cX9_isAgreed 53 = .ok (.goto 4, 3) := by decide +kernel
theorem dX9_isAgreed_56 : decode cX9_isAgreed 56 = .ok (.iconst 0, 1) := by decide +kernel
theorem dX9_isAgreed_57 : decode cX9_isAgreed 57 = .ok (.ireturn, 1) := by decide +kernel
theorem dX9_hasAlarm_0 : decode cX9_hasAlarm 0 = .ok (.aload_n 0, 1) := by decide +kernel
theorem dX9_hasAlarm_1 : decode cX9_hasAlarm 1 = .ok (.getfield 7, 3) := by decide +kernel
theorem dX9_hasAlarm_4 : decode cX9_hasAlarm 4 = .ok (.bipush 24, 2) := by decide +kernel
theorem dX9_hasAlarm_6 : decode cX9_hasAlarm 6 = .ok (.iload_n 1, 1) := by decide +kernel
theorem dX9_hasAlarm_7 : decode cX9_hasAlarm 7 = .ok (.iadd, 1) := by decide +kernel
theorem dX9_hasAlarm_8 : decode cX9_hasAlarm 8 = .ok (.iaload, 1) := by decide +kernel
theorem dX9_hasAlarm_9 : decode cX9_hasAlarm 9 = .ok (.ifCond .le 19, 3) := by decide +kernel
theorem dX9_hasAlarm_12 : decode cX9_hasAlarm 12 = .ok (.aload_n 0, 1) := by decide +kernel
theorem dX9_hasAlarm_13 : decode cX9_hasAlarm 13 = .ok (.getfield 7, 3) := by decide +kernel
theorem dX9_hasAlarm_16 : decode cX9_hasAlarm 16 = .ok (.bipush 28, 2) := by decide +kernel
theorem dX9_hasAlarm_18 : decode cX9_hasAlarm 18 = .ok (.iload_n 1, 1) := by decide +kernel
theorem dX9_hasAlarm_19 : decode cX9_hasAlarm 19 = .ok (.iadd, 1) := by decide +kernel
theorem dX9_hasAlarm_20 : decode cX9_hasAlarm 20 = .ok (.iaload, 1) := by decide +kernel
theorem dX9_hasAlarm_21 : decode cX9_hasAlarm 21 = .ok (.ifCond .ne 7, 3) := by decide +kernel
theorem dX9_hasAlarm_24 : decode cX9_hasAlarm 24 = .ok (.iconst 1, 1) := by decide +kernel
theorem dX9_hasAlarm_25 : decode cX9_hasAlarm 25 = .ok (.goto 4, 3) := by decide +kernel
theorem dX9_hasAlarm_28 : decode cX9_hasAlarm 28 = .ok (.iconst 0, 1) := by decide +kernel
theorem dX9_hasAlarm_29 : decode cX9_hasAlarm 29 = .ok (.ireturn, 1) := by decide +kernel
set_option maxRecDepth 20000 in
theorem ggX9_applies_X9_draft : GoodIn wsX9_applies wsX9_draft := goodIn_r _ [6, 1, 15, 16, 17, 18, 19, 20, 21] (by decide +kernel) (by decide +kernel)
set_option maxRecDepth 20000 in
theorem gX9_applies_X9_draft : GoodIn wsX9_applies (wsV RX9 45 RX9 yX9_draft wsX9_draft) := goodIn_app (goodIn_of _ (by decide +kernel)) ggX9_applies_X9_draft
set_option maxRecDepth 20000 in
theorem ggX9_applies_X9_hasAlarm : GoodIn wsX9_applies wsX9_hasAlarm := goodIn_r _ [10, 1, 15, 16, 17, 18, 19, 20, 21] (by decide +kernel) (by decide +kernel)
set_option maxRecDepth 20000 in
theorem gX9_applies_X9_hasAlarm : GoodIn wsX9_applies (wsV RX9 62 RX9 yX9_hasAlarm wsX9_hasAlarm) := goodIn_app (goodIn_of _ (by decide +kernel)) ggX9_applies_X9_hasAlarm
set_option maxRecDepth 20000 in
theorem ggX9_applies_X9_strength : GoodIn wsX9_applies wsX9_strength := goodIn_r _ [14, 1, 15, 16, 17, 18, 19, 20, 21] (by decide +kernel) (by decide +kernel)
set_option maxRecDepth 20000 in
theorem gX9_applies_X9_strength : GoodIn wsX9_applies (wsV RX9 49 RX9 yX9_strength wsX9_strength) := goodIn_app (goodIn_of _ (by decide +kernel)) ggX9_applies_X9_strength
theorem dX9_applies_0 : decode cX9_applies 0 = .ok (.bipush 113, 2) := by decide +kernel
theorem dX9_applies_2 : decode cX9_applies 2 = .ok (.iconst 4, 1) := by decide +kernel
theorem dX9_applies_3 : decode cX9_applies 3 = .ok (.iload_n 1, 1) := by decide +kernel
theorem dX9_applies_4 : decode cX9_applies 4 = .ok (.imul, 1) := by decide +kernel
theorem dX9_applies_5 : decode cX9_applies 5 = .ok (.iadd, 1) := by decide +kernel
theorem dX9_applies_6 : decode cX9_applies 6 = .ok (.istore_n 2, 1) := by decide +kernel
theorem dX9_applies_7 : decode cX9_applies 7 = .ok (.aload_n 0, 1) := by decide +kernel
theorem dX9_applies_8 : decode cX9_applies 8 = .ok (.getfield 7, 3) := by decide +kernel
theorem dX9_applies_11 : decode cX9_applies 11 = .ok (.iload_n 2, 1) := by decide +kernel
theorem dX9_applies_12 : decode cX9_applies 12 = .ok (.iaload, 1) := by decide +kernel
theorem dX9_applies_13 : decode cX9_applies 13 = .ok (.tableswitch 94 0 2 #[27, 60, 81], 27) := by decide +kernel
theorem dX9_applies_40 : decode cX9_applies 40 = .ok (.aload_n 0, 1) := by decide +kernel
theorem dX9_applies_41 : decode cX9_applies 41 = .ok (.getfield 7, 3) := by decide +kernel
theorem dX9_applies_44 : decode cX9_applies 44 = .ok (.bipush 20, 2) := by decide +kernel
theorem dX9_applies_46 : decode cX9_applies 46 = .ok (.aload_n 0, 1) := by decide +kernel
theorem dX9_applies_47 : decode cX9_applies 47 = .ok (.getfield 7, 3) := by decide +kernel
theorem dX9_applies_50 : decode cX9_applies 50 = .ok (.iload_n 2, 1) := by decide +kernel
theorem dX9_applies_51 : decode cX9_applies 51 = .ok (.iconst 1, 1) := by decide +kernel
theorem dX9_applies_52 : decode cX9_applies 52 = .ok (.iadd, 1) := by decide +kernel
theorem dX9_applies_53 : decode cX9_applies 53 = .ok (.iaload, 1) := by decide +kernel
theorem dX9_applies_54 : decode cX9_applies 54 = .ok (.iadd, 1) := by decide +kernel
theorem dX9_applies_55 : decode cX9_applies 55 = .ok (.iaload, 1) := by decide +kernel
theorem dX9_applies_56 : decode cX9_applies 56 = .ok (.aload_n 0, 1) := by decide +kernel
theorem dX9_applies_57 : decode cX9_applies 57 = .ok (.getfield 7, 3) := by decide +kernel
theorem dX9_applies_60 : decode cX9_applies 60 = .ok (.iload_n 2, 1) := by decide +kernel
theorem dX9_applies_61 : decode cX9_applies 61 = .ok (.iconst 2, 1) := by decide +kernel
theorem dX9_applies_62 : decode cX9_applies 62 = .ok (.iadd, 1) := by decide +kernel
theorem dX9_applies_63 : decode cX9_applies 63 = .ok (.iaload, 1) := by decide +kernel
theorem dX9_applies_64 : decode cX9_applies 64 = .ok (.if_icmp .lt 7, 3) := by decide +kernel
theorem dX9_applies_67 : decode cX9_applies 67 = .ok (.iconst 1, 1) := by decide +kernel
theorem dX9_applies_68 : decode cX9_applies 68 = .ok (.goto 4, 3) := by decide +kernel
theorem dX9_applies_71 : decode cX9_applies 71 = .ok (.iconst 0, 1) := by decide +kernel
theorem dX9_applies_72 : decode cX9_applies 72 = .ok (.ireturn, 1) := by decide +kernel
theorem dX9_applies_73 : decode cX9_applies 73 = .ok (.aload_n 0, 1) := by decide +kernel
theorem dX9_applies_74 : decode cX9_applies 74 = .ok (.invokevirtual 45, 3) := by decide +kernel
theorem dX9_applies_77 : decode cX9_applies 77 = .ok (.aload_n 0, 1) := by decide +kernel
theorem dX9_applies_78 : decode cX9_applies 78 = .ok (.getfield 7, 3) := by decide +kernel
theorem dX9_applies_81 : decode cX9_applies 81 = .ok (.iload_n 2, 1) := by decide +kernel
theorem dX9_applies_82 : decode cX9_applies 82 = .ok (.iconst 2, 1) := by decide +kernel
theorem dX9_applies_83 : decode cX9_applies 83 = .ok (.iadd, 1) := by decide +kernel
theorem dX9_applies_84 : decode cX9_applies 84 = .ok (.iaload, 1) := by decide +kernel
theorem dX9_applies_85 : decode cX9_applies 85 = .ok (.if_icmp .ge 7, 3) := by decide +kernel
theorem dX9_applies_88 : decode cX9_applies 88 = .ok (.iconst 1, 1) := by decide +kernel
theorem dX9_applies_89 : decode cX9_applies 89 = .ok (.goto 4, 3) := by decide +kernel
theorem dX9_applies_92 : decode cX9_applies 92 = .ok (.iconst 0, 1) := by decide +kernel
theorem dX9_applies_93 : decode cX9_applies 93 = .ok (.ireturn, 1) := by decide +kernel
theorem dX9_applies_94 : decode cX9_applies 94 = .ok (.aload_n 0, 1) := by decide +kernel
theorem dX9_applies_95 : decode cX9_applies 95 = .ok (.aload_n 0, 1) := by decide +kernel
theorem dX9_applies_96 : decode cX9_applies 96 = .ok (.getfield 7, 3) := by decide +kernel
theorem dX9_applies_99 : decode cX9_applies 99 = .ok (.iload_n 2, 1) := by decide +kernel
theorem dX9_applies_100 : decode cX9_applies 100 = .ok (.iconst 1, 1) := by decide +kernel
theorem dX9_applies_101 : decode cX9_applies 101 = .ok (.iadd, 1) := by decide +kernel
theorem dX9_applies_102 : decode cX9_applies 102 = .ok (.iaload, 1) := by decide +kernel
theorem dX9_applies_103 : decode cX9_applies 103 = .ok (.invokevirtual 62, 3) := by decide +kernel
theorem dX9_applies_106 : decode cX9_applies 106 = .ok (.ireturn, 1) := by decide +kernel
theorem dX9_applies_107 : decode cX9_applies 107 = .ok (.aload_n 0, 1) := by decide +kernel
theorem dX9_applies_108 : decode cX9_applies 108 = .ok (.invokevirtual 49, 3) := by decide +kernel
theorem dX9_applies_111 : decode cX9_applies 111 = .ok (.aload_n 0, 1) := by decide +kernel
theorem dX9_applies_112 : decode cX9_applies 112 = .ok (.getfield 7, 3) := by decide +kernel
theorem dX9_applies_115 : decode cX9_applies 115 = .ok (.iload_n 2, 1) := by decide +kernel
theorem dX9_applies_116 : decode cX9_applies 116 = .ok (.iconst 2, 1) := by decide +kernel
theorem dX9_applies_117 : decode cX9_applies 117 = .ok (.iadd, 1) := by decide +kernel
theorem dX9_applies_118 : decode cX9_applies 118 = .ok (.iaload, 1) := by decide +kernel
theorem dX9_applies_119 : decode cX9_applies 119 = .ok (.if_icmp .gt 7, 3) := by decide +kernel
theorem dX9_applies_122 : decode cX9_applies 122 = .ok (.iconst 1, 1) := by decide +kernel
theorem dX9_applies_123 : decode cX9_applies 123 = .ok (.goto 4, 3) := by decide +kernel
theorem dX9_applies_126 : decode cX9_applies 126 = .ok (.iconst 0, 1) := by decide +kernel
theorem dX9_applies_127 : decode cX9_applies 127 = .ok (.ireturn, 1) := by decide +kernel
set_option maxRecDepth 20000 in
theorem ggX9_firstRule_X9_applies : GoodIn wsX9_firstRule wsX9_applies := goodIn_r _ [6, 1, 7, 8, 9, 5, 10, 11, 12, 13, 14, 15, 16, 17, 18, 19, 20, 21, 22, 23, 24, 25] (by decide +kernel) (by decide +kernel)
set_option maxRecDepth 20000 in
theorem gX9_firstRule_X9_applies : GoodIn wsX9_firstRule (wsV RX9 65 RX9 yX9_applies wsX9_applies) := goodIn_app (goodIn_of _ (by decide +kernel)) ggX9_firstRule_X9_applies
theorem dX9_firstRule_0 : decode cX9_firstRule 0 = .ok (.iconst 0, 1) := by decide +kernel
theorem dX9_firstRule_1 : decode cX9_firstRule 1 = .ok (.istore_n 1, 1) := by decide +kernel
theorem dX9_firstRule_2 : decode cX9_firstRule 2 = .ok (.iload_n 1, 1) := by decide +kernel
theorem dX9_firstRule_3 : decode cX9_firstRule 3 = .ok (.aload_n 0, 1) := by decide +kernel
theorem dX9_firstRule_4 : decode cX9_firstRule 4 = .ok (.getfield 7, 3) := by decide +kernel
theorem dX9_firstRule_7 : decode cX9_firstRule 7 = .ok (.bipush 11, 2) := by decide +kernel
theorem dX9_firstRule_9 : decode cX9_firstRule 9 = .ok (.iaload, 1) := by decide +kernel
theorem dX9_firstRule_10 : decode cX9_firstRule 10 = .ok (.if_icmp .ge 19, 3) := by decide +kernel
theorem dX9_firstRule_13 : decode cX9_firstRule 13 = .ok (.aload_n 0, 1) := by decide +kernel
theorem dX9_firstRule_14 : decode cX9_firstRule 14 = .ok (.iload_n 1, 1) := by decide +kernel
theorem dX9_firstRule_15 : decode cX9_firstRule 15 = .ok (.invokevirtual 65, 3) := by decide +kernel
theorem dX9_firstRule_18 : decode cX9_firstRule 18 = .ok (.ifCond .eq 5, 3) := by decide +kernel
theorem dX9_firstRule_21 : decode cX9_firstRule 21 = .ok (.iload_n 1, 1) := by decide +kernel
theorem dX9_firstRule_22 : decode cX9_firstRule 22 = .ok (.ireturn, 1) := by decide +kernel
theorem dX9_firstRule_23 : decode cX9_firstRule 23 = .ok (.iinc 1 1, 3) := by decide +kernel
theorem dX9_firstRule_26 : decode cX9_firstRule 26 = .ok (.goto (-24), 3) := by decide +kernel
theorem dX9_firstRule_29 : decode cX9_firstRule 29 = .ok (.iconst (-1), 1) := by decide +kernel
theorem dX9_firstRule_30 : decode cX9_firstRule 30 = .ok (.ireturn, 1) := by decide +kernel
set_option maxRecDepth 20000 in
theorem ggX9_comes_X9_isDoorOpen : GoodIn wsX9_comes wsX9_isDoorOpen := goodIn_r _ [6, 1, 11, 12, 13, 14, 15, 16, 17] (by decide +kernel) (by decide +kernel)
set_option maxRecDepth 20000 in
theorem gX9_comes_X9_isDoorOpen : GoodIn wsX9_comes (wsV RX9 68 RX9 yX9_isDoorOpen wsX9_isDoorOpen) := goodIn_app (goodIn_of _ (by decide +kernel)) ggX9_comes_X9_isDoorOpen
set_option maxRecDepth 20000 in
theorem ggX9_comes_X9_sets : GoodIn wsX9_comes wsX9_sets := goodIn_r _ [10, 1, 11, 12, 13, 14, 15, 16, 17] (by decide +kernel) (by decide +kernel)
set_option maxRecDepth 20000 in
theorem gX9_comes_X9_sets : GoodIn wsX9_comes (wsV RX9 72 RX9 yX9_sets wsX9_sets) := goodIn_app (goodIn_of _ (by decide +kernel)) ggX9_comes_X9_sets
theorem dX9_comes_0 : decode cX9_comes 0 = .ok (.aload_n 0, 1) := by decide +kernel
theorem dX9_comes_1 : decode cX9_comes 1 = .ok (.getfield 7, 3) := by decide +kernel
theorem dX9_comes_4 : decode cX9_comes 4 = .ok (.bipush 12, 2) := by decide +kernel
theorem dX9_comes_6 : decode cX9_comes 6 = .ok (.iaload, 1) := by decide +kernel
theorem dX9_comes_7 : decode cX9_comes 7 = .ok (.ifCond .le 248, 3) := by decide +kernel
theorem dX9_comes_10 : decode cX9_comes 10 = .ok (.aload_n 0, 1) := by decide +kernel
theorem dX9_comes_11 : decode cX9_comes 11 = .ok (.getfield 7, 3) := by decide +kernel
theorem dX9_comes_14 : decode cX9_comes 14 = .ok (.sipush 145, 3) := by decide +kernel
theorem dX9_comes_17 : decode cX9_comes 17 = .ok (.iaload, 1) := by decide +kernel
theorem dX9_comes_18 : decode cX9_comes 18 = .ok (.aload_n 0, 1) := by decide +kernel
theorem dX9_comes_19 : decode cX9_comes 19 = .ok (.getfield 7, 3) := by decide +kernel
theorem dX9_comes_22 : decode cX9_comes 22 = .ok (.bipush 7, 2) := by decide +kernel
theorem dX9_comes_24 : decode cX9_comes 24 = .ok (.iaload, 1) := by decide +kernel
theorem dX9_comes_25 : decode cX9_comes 25 = .ok (.if_icmp .ne 230, 3) := by decide +kernel
theorem dX9_comes_28 : decode cX9_comes 28 = .ok (.aload_n 0, 1) := by decide +kernel
theorem dX9_comes_29 : decode cX9_comes 29 = .ok (.getfield 7, 3) := by decide +kernel
theorem dX9_comes_32 : decode cX9_comes 32 = .ok (.sipush 147, 3) := by decide +kernel
theorem dX9_comes_35 : decode cX9_comes 35 = .ok (.iaload, 1) := by decide +kernel
theorem dX9_comes_36 : decode cX9_comes 36 = .ok (.istore_n 1, 1) := by decide +kernel
theorem dX9_comes_37 : decode cX9_comes 37 = .ok (.aload_n 0, 1) := by decide +kernel
theorem dX9_comes_38 : decode cX9_comes 38 = .ok (.getfield 7, 3) := by decide +kernel
theorem dX9_comes_41 : decode cX9_comes 41 = .ok (.sipush 148, 3) := by decide +kernel
theorem dX9_comes_44 : decode cX9_comes 44 = .ok (.iaload, 1) := by decide +kernel
theorem dX9_comes_45 : decode cX9_comes 45 = .ok (.istore_n 2, 1) := by decide +kernel
theorem dX9_comes_46 : decode cX9_comes 46 = .ok (.aload_n 0, 1) := by decide +kernel
theorem dX9_comes_47 : decode cX9_comes 47 = .ok (.getfield 7, 3) := by decide +kernel
theorem dX9_comes_50 : decode cX9_comes 50 = .ok (.sipush 146, 3) := by decide +kernel
theorem dX9_comes_53 : decode cX9_comes 53 = .ok (.iaload, 1) := by decide +kernel
theorem dX9_comes_54 : decode cX9_comes 54 = .ok (.tableswitch 121 0 3 #[30, 53, 93, 103], 30) := by decide +kernel
theorem dX9_comes_84 : decode cX9_comes 84 = .ok (.aload_n 0, 1) := by decide +kernel
theorem dX9_comes_85 : decode cX9_comes 85 = .ok (.iload_n 1, 1) := by decide +kernel
theorem dX9_comes_86 : decode cX9_comes 86 = .ok (.iload_n 2, 1) := by decide +kernel
theorem dX9_comes_87 : decode cX9_comes 87 = .ok (.aload_n 0, 1) := by decide +kernel
theorem dX9_comes_88 : decode cX9_comes 88 = .ok (.iload_n 1, 1) := by decide +kernel
theorem dX9_comes_89 : decode cX9_comes 89 = .ok (.iload_n 2, 1) := by decide +kernel
theorem dX9_comes_90 : decode cX9_comes 90 = .ok (.invokevirtual 68, 3) := by decide +kernel
theorem dX9_comes_93 : decode cX9_comes 93 = .ok (.ifCond .eq 7, 3) := by decide +kernel
theorem dX9_comes_96 : decode cX9_comes 96 = .ok (.iconst 0, 1) := by decide +kernel
theorem dX9_comes_97 : decode cX9_comes 97 = .ok (.goto 4, 3) := by decide +kernel
theorem dX9_comes_100 : decode cX9_comes 100 = .ok (.iconst 1, 1) := by decide +kernel
theorem dX9_comes_101 : decode cX9_comes 101 = .ok (.invokevirtual 72, 3) := by decide +kernel
theorem dX9_comes_104 : decode cX9_comes 104 = .ok (.goto 85, 3) := by decide +kernel
theorem dX9_comes_107 : decode cX9_comes 107 = .ok (.aload_n 0, 1) := by decide +kernel
theorem dX9_comes_108 : decode cX9_comes 108 = .ok (.getfield 7, 3) := by decide +kernel
theorem dX9_comes_111 : decode cX9_comes 111 = .ok (.bipush 8, 2) := by decide +kernel
theorem dX9_comes_113 : decode cX9_comes 113 = .ok (.aload_n 0, 1) := by decide +kernel
theorem dX9_comes_114 : decode cX9_comes 114 = .ok (.getfield 7, 3) := by decide +kernel
theorem dX9_comes_117 : decode cX9_comes 117 = .ok (.bipush 8, 2) := by decide +kernel
theorem dX9_comes_119 : decode cX9_comes 119 = .ok (.iaload, 1) := by decide +kernel
theorem dX9_comes_120 : decode cX9_comes 120 = .ok (.iload_n 1, 1) := by decide +kernel
theorem dX9_comes_121 : decode cX9_comes 121 = .ok (.iadd, 1) := by decide +kernel
theorem dX9_comes_122 : decode cX9_comes 122 = .ok (.sipush 200, 3) := by decide +kernel
theorem dX9_comes_125 : decode cX9_comes 125 = .ok (.if_icmp .le 9, 3) := by decide +kernel
theorem dX9_comes_128 : decode cX9_comes 128 = .ok (.sipush 200, 3) := by decide +kernel
theorem dX9_comes_131 : decode cX9_comes 131 = .ok (.goto 12, 3) := by decide +kernel
theorem dX9_comes_134 : decode cX9_comes 134 = .ok (.aload_n 0, 1) := by decide +kernel
theorem dX9_comes_135 : decode cX9_comes 135 = .ok (.getfield 7, 3) := by decide +kernel
theorem dX9_comes_138 : decode cX9_comes 138 = .ok (.bipush 8, 2) := by decide +kernel
theorem dX9_comes_140 : decode cX9_comes 140 = .ok (.iaload, 1) := by decide +kernel
theorem dX9_comes_141 : decode cX9_comes 141 = .ok (.iload_n 1, 1) := by decide +kernel
theorem dX9_comes_142 : decode cX9_comes 142 = .ok (.iadd, 1) := by decide +kernel
theorem dX9_comes_143 : decode cX9_comes 143 = .ok (.iastore, 1) := by decide +kernel
theorem dX9_comes_144 : decode cX9_comes 144 = .ok (.goto 45, 3) := by decide +kernel
theorem dX9_comes_147 : decode cX9_comes 147 = .ok (.aload_n 0, 1) := by decide +kernel
theorem dX9_comes_148 : decode cX9_comes 148 = .ok (.getfield 7, 3) := by decide +kernel
theorem dX9_comes_151 : decode cX9_comes 151 = .ok (.iconst 0, 1) := by decide +kernel
theorem dX9_comes_152 : decode cX9_comes 152 = .ok (.iload_n 1, 1) := by decide +kernel
theorem dX9_comes_153 : decode cX9_comes 153 = .ok (.iastore, 1) := by decide +kernel
theorem dX9_comes_154 : decode cX9_comes 154 = .ok (.goto 35, 3) := by decide +kernel
theorem dX9_comes_157 : decode cX9_comes 157 = .ok (.aload_n 0, 1) := by decide +kernel
theorem dX9_comes_158 : decode cX9_comes 158 = .ok (.getfield 7, 3) := by decide +kernel
theorem dX9_comes_161 : decode cX9_comes 161 = .ok (.bipush 57, 2) := by decide +kernel
theorem dX9_comes_163 : decode cX9_comes 163 = .ok (.bipush 7, 2) := by decide +kernel
theorem dX9_comes_165 : decode cX9_comes 165 = .ok (.iload_n 1, 1) := by decide +kernel
theorem dX9_comes_166 : decode cX9_comes 166 = .ok (.imul, 1) := by decide +kernel
theorem dX9_comes_167 : decode cX9_comes 167 = .ok (.iadd, 1) := by decide +kernel
theorem dX9_comes_168 : decode cX9_comes 168 = .ok (.iconst 5, 1) := by decide +kernel
theorem dX9_comes_169 : decode cX9_comes 169 = .ok (.iadd, 1) := by decide +kernel
theorem dX9_comes_170 : decode cX9_comes 170 = .ok (.iload_n 2, 1) := by decide +kernel
theorem dX9_comes_171 : decode cX9_comes 171 = .ok (.iastore, 1) := by decide +kernel
theorem dX9_comes_172 : decode cX9_comes 172 = .ok (.goto 17, 3) := by decide +kernel
theorem dX9_comes_175 : decode cX9_comes 175 = .ok (.aload_n 0, 1) := by decide +kernel
theorem dX9_comes_176 : decode cX9_comes 176 = .ok (.getfield 7, 3) := by decide +kernel
theorem dX9_comes_179 : decode cX9_comes 179 = .ok (.iconst 3, 1) := by decide +kernel
theorem dX9_comes_180 : decode cX9_comes 180 = .ok (.iconst 1, 1) := by decide +kernel
theorem dX9_comes_181 : decode cX9_comes 181 = .ok (.aload_n 0, 1) := by decide +kernel
theorem dX9_comes_182 : decode cX9_comes 182 = .ok (.getfield 7, 3) := by decide +kernel
theorem dX9_comes_185 : decode cX9_comes 185 = .ok (.iconst 3, 1) := by decide +kernel
theorem dX9_comes_186 : decode cX9_comes 186 = .ok (.iaload, 1) := by decide +kernel
theorem dX9_comes_187 : decode cX9_comes 187 = .ok (.isub, 1) := by decide +kernel
theorem dX9_comes_188 : decode cX9_comes 188 = .ok (.iastore, 1) := by decide +kernel
theorem dX9_comes_189 : decode cX9_comes 189 = .ok (.aload_n 0, 1) := by decide +kernel
theorem dX9_comes_190 : decode cX9_comes 190 = .ok (.getfield 7, 3) := by decide +kernel
theorem dX9_comes_193 : decode cX9_comes 193 = .ok (.bipush 12, 2) := by decide +kernel
theorem dX9_comes_195 : decode cX9_comes 195 = .ok (.dup2, 1) := by decide +kernel
theorem dX9_comes_196 : decode cX9_comes 196 = .ok (.iaload, 1) := by decide +kernel
theorem dX9_comes_197 : decode cX9_comes 197 = .ok (.iconst 1, 1) := by decide +kernel
theorem dX9_comes_198 : decode cX9_comes 198 = .ok (.isub, 1) := by decide +kernel
theorem dX9_comes_199 : decode cX9_comes 199 = .ok (.iastore, 1) := by decide +kernel
theorem dX9_comes_200 : decode cX9_comes 200 = .ok (.sipush 145, 3) := by decide +kernel
theorem dX9_comes_203 : decode cX9_comes 203 = .ok (.istore_n 3, 1) := by decide +kernel
theorem dX9_comes_204 : decode cX9_comes 204 = .ok (.iload_n 3, 1) := by decide +kernel
theorem dX9_comes_205 : decode cX9_comes 205 = .ok (.sipush 145, 3) := by decide +kernel
theorem dX9_comes_208 : decode cX9_comes 208 = .ok (.iconst 4, 1) := by decide +kernel
theorem dX9_comes_209 : decode cX9_comes 209 = .ok (.aload_n 0, 1) := by decide +kernel
theorem dX9_comes_210 : decode cX9_comes 210 = .ok (.getfield 7, 3) := by decide +kernel
theorem dX9_comes_213 : decode cX9_comes 213 = .ok (.bipush 12, 2) := by decide +kernel
theorem dX9_comes_215 : decode cX9_comes 215 = .ok (.iaload, 1) := by decide +kernel
theorem dX9_comes_216 : decode cX9_comes 216 = .ok (.imul, 1) := by decide +kernel
theorem dX9_comes_217 : decode cX9_comes 217 = .ok (.iadd, 1) := by decide +kernel
theorem dX9_comes_218 : decode cX9_comes 218 = .ok (.if_icmp .ge 23, 3) := by decide +kernel
theorem dX9_comes_221 : decode cX9_comes 221 = .ok (.aload_n 0, 1) := by decide +kernel
theorem dX9_comes_222 : decode cX9_comes 222 = .ok (.getfield 7, 3) := by decide +kernel
theorem dX9_comes_225 : decode cX9_comes 225 = .ok (.iload_n 3, 1) := by decide +kernel
theorem dX9_comes_226 : decode cX9_comes 226 = .ok (.aload_n 0, 1) := by decide +kernel
theorem dX9_comes_227 : decode cX9_comes 227 = .ok (.getfield 7, 3) := by decide +kernel
theorem dX9_comes_230 : decode cX9_comes 230 = .ok (.iload_n 3, 1) := by decide +kernel
theorem dX9_comes_231 : decode cX9_comes 231 = .ok (.iconst 4, 1) := by decide +kernel
theorem dX9_comes_232 : decode cX9_comes 232 = .ok (.iadd, 1) := by decide +kernel
theorem dX9_comes_233 : decode cX9_comes 233 = .ok (.iaload, 1) := by decide +kernel
theorem dX9_comes_234 : decode cX9_comes 234 = .ok (.iastore, 1) := by decide +kernel
theorem dX9_comes_235 : decode cX9_comes 235 = .ok (.iinc 3 1, 3) := by decide +kernel
theorem dX9_comes_238 : decode cX9_comes 238 = .ok (.goto (-34), 3) := by decide +kernel
theorem dX9_comes_241 : decode cX9_comes 241 = .ok (.aload_n 0, 1) := by decide +kernel
theorem dX9_comes_242 : decode cX9_comes 242 = .ok (.getfield 7, 3) := by decide +kernel
theorem dX9_comes_245 : decode cX9_comes 245 = .ok (.bipush 15, 2) := by decide +kernel
theorem dX9_comes_247 : decode cX9_comes 247 = .ok (.dup2, 1) := by decide +kernel
theorem dX9_comes_248 : decode cX9_comes 248 = .ok (.iaload, 1) := by decide +kernel
theorem dX9_comes_249 : decode cX9_comes 249 = .ok (.iconst 1, 1) := by decide +kernel
theorem dX9_comes_250 : decode cX9_comes 250 = .ok (.iadd, 1) := by decide +kernel
theorem dX9_comes_251 : decode cX9_comes 251 = .ok (.iastore, 1) := by decide +kernel
theorem dX9_comes_252 : decode cX9_comes 252 = .ok (.goto (-252), 3) := by decide +kernel
theorem dX9_comes_255 : decode cX9_comes 255 = .ok (.return_, 1) := by decide +kernel
theorem dX9_lesser_0 : decode cX9_lesser 0 = .ok (.iload_n 0, 1) := by decide +kernel
theorem dX9_lesser_1 : decode cX9_lesser 1 = .ok (.iload_n 1, 1) := by decide +kernel
theorem dX9_lesser_2 : decode cX9_lesser 2 = .ok (.if_icmp .ge 7, 3) := by decide +kernel
theorem dX9_lesser_5 : decode cX9_lesser 5 = .ok (.iload_n 0, 1) := by decide +kernel
theorem dX9_lesser_6 : decode cX9_lesser 6 = .ok (.goto 4, 3) := by decide +kernel
theorem dX9_lesser_9 : decode cX9_lesser 9 = .ok (.iload_n 1, 1) := by decide +kernel
theorem dX9_lesser_10 : decode cX9_lesser 10 = .ok (.ireturn, 1) := by decide +kernel
set_option maxRecDepth 20000 in
theorem ggX9_burns_X9_strength : GoodIn wsX9_burns wsX9_strength := goodIn_r _ [6, 1, 14, 15, 16, 17, 18, 19, 20] (by decide +kernel) (by decide +kernel)
set_option maxRecDepth 20000 in
theorem gX9_burns_X9_strength : GoodIn wsX9_burns (wsV RX9 49 RX9 yX9_strength wsX9_strength) := goodIn_app (goodIn_of _ (by decide +kernel)) ggX9_burns_X9_strength
set_option maxRecDepth 20000 in
theorem ggX9_burns_X9_lesser : GoodIn wsX9_burns wsX9_lesser := goodIn_r _ [9] (by decide +kernel) (by decide +kernel)
set_option maxRecDepth 20000 in
theorem gX9_burns_X9_lesser : GoodIn wsX9_burns (va_wsS RX9 76 yX9_lesser wsX9_lesser) := goodIn_app (goodIn_of _ (by decide +kernel)) ggX9_burns_X9_lesser
set_option maxRecDepth 20000 in
theorem ggX9_burns_X9_draft : GoodIn wsX9_burns wsX9_draft := goodIn_r _ [13, 1, 14, 15, 16, 17, 18, 19, 20] (by decide +kernel) (by decide +kernel)
set_option maxRecDepth 20000 in
theorem gX9_burns_X9_draft : GoodIn wsX9_burns (wsV RX9 45 RX9 yX9_draft wsX9_draft) := goodIn_app (goodIn_of _ (by decide +kernel)) ggX9_burns_X9_draft
theorem dX9_burns_0 : decode cX9_burns 0 = .ok (.aload_n 0, 1) := by decide +kernel
theorem dX9_burns_1 : decode cX9_burns 1 = .ok (.invokevirtual 49, 3) := by decide +kernel
theorem dX9_burns_4 : decode cX9_burns 4 = .ok (.istore_n 1, 1) := by decide +kernel
theorem dX9_burns_5 : decode cX9_burns 5 = .ok (.aload_n 0, 1) := by decide +kernel
theorem dX9_burns_6 : decode cX9_burns 6 = .ok (.getfield 7, 3) := by decide +kernel
theorem dX9_burns_9 : decode cX9_burns 9 = .ok (.bipush 8, 2) := by decide +kernel
theorem dX9_burns_11 : decode cX9_burns 11 = .ok (.iaload, 1) := by decide +kernel
theorem dX9_burns_12 : decode cX9_burns 12 = .ok (.iconst 1, 1) := by decide +kernel
theorem dX9_burns_13 : decode cX9_burns 13 = .ok (.isub, 1) := by decide +kernel
theorem dX9_burns_14 : decode cX9_burns 14 = .ok (.aload_n 0, 1) := by decide +kernel
theorem dX9_burns_15 : decode cX9_burns 15 = .ok (.getfield 7, 3) := by decide +kernel
theorem dX9_burns_18 : decode cX9_burns 18 = .ok (.iconst 4, 1) := by decide +kernel
theorem dX9_burns_19 : decode cX9_burns 19 = .ok (.iaload, 1) := by decide +kernel
theorem dX9_burns_20 : decode cX9_burns 20 = .ok (.iconst 2, 1) := by decide +kernel
theorem dX9_burns_21 : decode cX9_burns 21 = .ok (.idiv, 1) := by decide +kernel
theorem dX9_burns_22 : decode cX9_burns 22 = .ok (.isub, 1) := by decide +kernel
theorem dX9_burns_23 : decode cX9_burns 23 = .ok (.istore_n 2, 1) := by decide +kernel
theorem dX9_burns_24 : decode cX9_burns 24 = .ok (.aload_n 0, 1) := by decide +kernel
theorem dX9_burns_25 : decode cX9_burns 25 = .ok (.getfield 7, 3) := by decide +kernel
theorem dX9_burns_28 : decode cX9_burns 28 = .ok (.bipush 8, 2) := by decide +kernel
theorem dX9_burns_30 : decode cX9_burns 30 = .ok (.iload_n 1, 1) := by decide +kernel
theorem dX9_burns_31 : decode cX9_burns 31 = .ok (.ifCond .ne 13, 3) := by decide +kernel
theorem dX9_burns_34 : decode cX9_burns 34 = .ok (.aload_n 0, 1) := by decide +kernel
theorem dX9_burns_35 : decode cX9_burns 35 = .ok (.getfield 7, 3) := by decide +kernel
theorem dX9_burns_38 : decode cX9_burns 38 = .ok (.bipush 8, 2) := by decide +kernel
theorem dX9_burns_40 : decode cX9_burns 40 = .ok (.iaload, 1) := by decide +kernel
theorem dX9_burns_41 : decode cX9_burns 41 = .ok (.goto 12, 3) := by decide +kernel
theorem dX9_burns_44 : decode cX9_burns 44 = .ok (.iload_n 2, 1) := by decide +kernel
theorem dX9_burns_45 : decode cX9_burns 45 = .ok (.ifCond .ge 7, 3) := by decide +kernel
theorem dX9_burns_48 : decode cX9_burns 48 = .ok (.iconst 0, 1) := by decide +kernel
theorem dX9_burns_49 : decode cX9_burns 49 = .ok (.goto 4, 3) := by decide +kernel
theorem dX9_burns_52 : decode cX9_burns 52 = .ok (.iload_n 2, 1) := by decide +kernel
theorem dX9_burns_53 : decode cX9_burns 53 = .ok (.iastore, 1) := by decide +kernel
theorem dX9_burns_54 : decode cX9_burns 54 = .ok (.aload_n 0, 1) := by decide +kernel
theorem dX9_burns_55 : decode cX9_burns 55 = .ok (.getfield 7, 3) := by decide +kernel
theorem dX9_burns_58 : decode cX9_burns 58 = .ok (.iconst 5, 1) := by decide +kernel
theorem dX9_burns_59 : decode cX9_burns 59 = .ok (.sipush 999, 3) := by decide +kernel
theorem dX9_burns_62 : decode cX9_burns 62 = .ok (.aload_n 0, 1) := by decide +kernel
theorem dX9_burns_63 : decode cX9_burns 63 = .ok (.getfield 7, 3) := by decide +kernel
theorem dX9_burns_66 : decode cX9_burns 66 = .ok (.iconst 5, 1) := by decide +kernel
theorem dX9_burns_67 : decode cX9_burns 67 = .ok (.iaload, 1) := by decide +kernel
theorem dX9_burns_68 : decode cX9_burns 68 = .ok (.bipush 6, 2) := by decide +kernel
theorem dX9_burns_70 : decode cX9_burns 70 = .ok (.iload_n 1, 1) := by decide +kernel
theorem dX9_burns_71 : decode cX9_burns 71 = .ok (.imul, 1) := by decide +kernel
theorem dX9_burns_72 : decode cX9_burns 72 = .ok (.iadd, 1) := by decide +kernel
theorem dX9_burns_73 : decode cX9_burns 73 = .ok (.aload_n 0, 1) := by decide +kernel
theorem dX9_burns_74 : decode cX9_burns 74 = .ok (.getfield 7, 3) := by decide +kernel
theorem dX9_burns_77 : decode cX9_burns 77 = .ok (.iconst 5, 1) := by decide +kernel
theorem dX9_burns_78 : decode cX9_burns 78 = .ok (.iaload, 1) := by decide +kernel
theorem dX9_burns_79 : decode cX9_burns 79 = .ok (.bipush 8, 2) := by decide +kernel
theorem dX9_burns_81 : decode cX9_burns 81 = .ok (.idiv, 1) := by decide +kernel
theorem dX9_burns_82 : decode cX9_burns 82 = .ok (.isub, 1) := by decide +kernel
theorem dX9_burns_83 : decode cX9_burns 83 = .ok (.invokestatic 76, 3) := by decide +kernel
theorem dX9_burns_86 : decode cX9_burns 86 = .ok (.iastore, 1) := by decide +kernel
theorem dX9_burns_87 : decode cX9_burns 87 = .ok (.aload_n 0, 1) := by decide +kernel
theorem dX9_burns_88 : decode cX9_burns 88 = .ok (.invokevirtual 45, 3) := by decide +kernel
theorem dX9_burns_91 : decode cX9_burns 91 = .ok (.istore_n 3, 1) := by decide +kernel
theorem dX9_burns_92 : decode cX9_burns 92 = .ok (.bipush 40, 2) := by decide +kernel
theorem dX9_burns_94 : decode cX9_burns 94 = .ok (.iload_n 1, 1) := by decide +kernel
theorem dX9_burns_95 : decode cX9_burns 95 = .ok (.imul, 1) := by decide +kernel
theorem dX9_burns_96 : decode cX9_burns 96 = .ok (.iconst 2, 1) := by decide +kernel
theorem dX9_burns_97 : decode cX9_burns 97 = .ok (.iload_n 3, 1) := by decide +kernel
theorem dX9_burns_98 : decode cX9_burns 98 = .ok (.imul, 1) := by decide +kernel
theorem dX9_burns_99 : decode cX9_burns 99 = .ok (.invokestatic 76, 3) := by decide +kernel
theorem dX9_burns_102 : decode cX9_burns 102 = .ok (.istore 4, 2) := by decide +kernel
theorem dX9_burns_104 : decode cX9_burns 104 = .ok (.aload_n 0, 1) := by decide +kernel
theorem dX9_burns_105 : decode cX9_burns 105 = .ok (.getfield 7, 3) := by decide +kernel
theorem dX9_burns_108 : decode cX9_burns 108 = .ok (.bipush 20, 2) := by decide +kernel
theorem dX9_burns_110 : decode cX9_burns 110 = .ok (.dup2, 1) := by decide +kernel
theorem dX9_burns_111 : decode cX9_burns 111 = .ok (.iaload, 1) := by decide +kernel
theorem dX9_burns_112 : decode cX9_burns 112 = .ok (.bipush 40, 2) := by decide +kernel
theorem dX9_burns_114 : decode cX9_burns 114 = .ok (.iload_n 1, 1) := by decide +kernel
theorem dX9_burns_115 : decode cX9_burns 115 = .ok (.imul, 1) := by decide +kernel
theorem dX9_burns_116 : decode cX9_burns 116 = .ok (.iload 4, 2) := by decide +kernel
theorem dX9_burns_118 : decode cX9_burns 118 = .ok (.isub, 1) := by decide +kernel
theorem dX9_burns_119 : decode cX9_burns 119 = .ok (.iadd, 1) := by decide +kernel
theorem dX9_burns_120 : decode cX9_burns 120 = .ok (.iastore, 1) := by decide +kernel
theorem dX9_burns_121 : decode cX9_burns 121 = .ok (.iload_n 3, 1) := by decide +kernel
theorem dX9_burns_122 : decode cX9_burns 122 = .ok (.iconst 2, 1) := by decide +kernel
theorem dX9_burns_123 : decode cX9_burns 123 = .ok (.idiv, 1) := by decide +kernel
theorem dX9_burns_124 : decode cX9_burns 124 = .ok (.aload_n 0, 1) := by decide +kernel
theorem dX9_burns_125 : decode cX9_burns 125 = .ok (.getfield 7, 3) := by decide +kernel
theorem dX9_burns_128 : decode cX9_burns 128 = .ok (.bipush 20, 2) := by decide +kernel
theorem dX9_burns_130 : decode cX9_burns 130 = .ok (.iaload, 1) := by decide +kernel
theorem dX9_burns_131 : decode cX9_burns 131 = .ok (.invokestatic 76, 3) := by decide +kernel
theorem dX9_burns_134 : decode cX9_burns 134 = .ok (.istore 5, 2) := by decide +kernel
theorem dX9_burns_136 : decode cX9_burns 136 = .ok (.aload_n 0, 1) := by decide +kernel
theorem dX9_burns_137 : decode cX9_burns 137 = .ok (.getfield 7, 3) := by decide +kernel
theorem dX9_burns_140 : decode cX9_burns 140 = .ok (.bipush 20, 2) := by decide +kernel
theorem dX9_burns_142 : decode cX9_burns 142 = .ok (.dup2, 1) := by decide +kernel
theorem dX9_burns_143 : decode cX9_burns 143 = .ok (.iaload, 1) := by decide +kernel
theorem dX9_burns_144 : decode cX9_burns 144 = .ok (.iload 5, 2) := by decide +kernel
theorem dX9_burns_146 : decode cX9_burns 146 = .ok (.isub, 1) := by decide +kernel
theorem dX9_burns_147 : decode cX9_burns 147 = .ok (.iastore, 1) := by decide +kernel
theorem dX9_burns_148 : decode cX9_burns 148 = .ok (.aload_n 0, 1) := by decide +kernel
theorem dX9_burns_149 : decode cX9_burns 149 = .ok (.getfield 7, 3) := by decide +kernel
theorem dX9_burns_152 : decode cX9_burns 152 = .ok (.bipush 16, 2) := by decide +kernel
theorem dX9_burns_154 : decode cX9_burns 154 = .ok (.dup2, 1) := by decide +kernel
theorem dX9_burns_155 : decode cX9_burns 155 = .ok (.iaload, 1) := by decide +kernel
theorem dX9_burns_156 : decode cX9_burns 156 = .ok (.iload 4, 2) := by decide +kernel
theorem dX9_burns_158 : decode cX9_burns 158 = .ok (.iload 5, 2) := by decide +kernel
theorem dX9_burns_160 : decode cX9_burns 160 = .ok (.iadd, 1) := by decide +kernel
theorem dX9_burns_161 : decode cX9_burns 161 = .ok (.iadd, 1) := by decide +kernel
theorem dX9_burns_162 : decode cX9_burns 162 = .ok (.iastore, 1) := by decide +kernel
theorem dX9_burns_163 : decode cX9_burns 163 = .ok (.return_, 1) := by decide +kernel
set_option maxRecDepth 20000 in
theorem ggX9_spreads_X9_isDoorOpen : GoodIn wsX9_spreads wsX9_isDoorOpen := goodIn_r _ [8, 1, 12, 13, 14, 15, 16, 17, 18] (by decide +kernel) (by decide +kernel)
set_option maxRecDepth 20000 in
theorem gX9_spreads_X9_isDoorOpen : GoodIn wsX9_spreads (wsV RX9 68 RX9 yX9_isDoorOpen wsX9_isDoorOpen) := goodIn_app (goodIn_of _ (by decide +kernel)) ggX9_spreads_X9_isDoorOpen
set_option maxRecDepth 20000 in
theorem ggX9_spreads_X9_lesser : GoodIn wsX9_spreads wsX9_lesser := goodIn_r _ [11] (by decide +kernel) (by decide +kernel)
set_option maxRecDepth 20000 in
theorem gX9_spreads_X9_lesser : GoodIn wsX9_spreads (va_wsS RX9 76 yX9_lesser wsX9_lesser) := goodIn_app (goodIn_of _ (by decide +kernel)) ggX9_spreads_X9_lesser
theorem dX9_spreads_0 : decode cX9_spreads 0 = .ok (.aload_n 0, 1) := by decide +kernel
theorem dX9_spreads_1 : decode cX9_spreads 1 = .ok (.getfield 7, 3) := by decide +kernel
theorem dX9_spreads_4 : decode cX9_spreads 4 = .ok (.bipush 6, 2) := by decide +kernel
theorem dX9_spreads_6 : decode cX9_spreads 6 = .ok (.iaload, 1) := by decide +kernel
theorem dX9_spreads_7 : decode cX9_spreads 7 = .ok (.istore_n 1, 1) := by decide +kernel
theorem dX9_spreads_8 : decode cX9_spreads 8 = .ok (.iconst 0, 1) := by decide +kernel
theorem dX9_spreads_9 : decode cX9_spreads 9 = .ok (.istore_n 2, 1) := by decide +kernel
theorem dX9_spreads_10 : decode cX9_spreads 10 = .ok (.iload_n 2, 1) := by decide +kernel
theorem dX9_spreads_11 : decode cX9_spreads 11 = .ok (.iload_n 1, 1) := by decide +kernel
theorem dX9_spreads_12 : decode cX9_spreads 12 = .ok (.if_icmp .ge 16, 3) := by decide +kernel
theorem dX9_spreads_15 : decode cX9_spreads 15 = .ok (.aload_n 0, 1) := by decide +kernel
theorem dX9_spreads_16 : decode cX9_spreads 16 = .ok (.getfield 19, 3) := by decide +kernel
theorem dX9_spreads_19 : decode cX9_spreads 19 = .ok (.iload_n 2, 1) := by decide +kernel
theorem dX9_spreads_20 : decode cX9_spreads 20 = .ok (.iconst 0, 1) := by decide +kernel
theorem dX9_spreads_21 : decode cX9_spreads 21 = .ok (.iastore, 1) := by decide +kernel
theorem dX9_spreads_22 : decode cX9_spreads 22 = .ok (.iinc 2 1, 3) := by decide +kernel
theorem dX9_spreads_25 : decode cX9_spreads 25 = .ok (.goto (-15), 3) := by decide +kernel
theorem dX9_spreads_28 : decode cX9_spreads 28 = .ok (.iconst 0, 1) := by decide +kernel
theorem dX9_spreads_29 : decode cX9_spreads 29 = .ok (.istore_n 2, 1) := by decide +kernel
theorem dX9_spreads_30 : decode cX9_spreads 30 = .ok (.iload_n 2, 1) := by decide +kernel
theorem dX9_spreads_31 : decode cX9_spreads 31 = .ok (.iload_n 1, 1) := by decide +kernel
theorem dX9_spreads_32 : decode cX9_spreads 32 = .ok (.if_icmp .ge 128, 3) := by decide +kernel
theorem dX9_spreads_35 : decode cX9_spreads 35 = .ok (.iload_n 2, 1) := by decide +kernel
theorem dX9_spreads_36 : decode cX9_spreads 36 = .ok (.iconst 1, 1) := by decide +kernel
theorem dX9_spreads_37 : decode cX9_spreads 37 = .ok (.iadd, 1) := by decide +kernel
theorem dX9_spreads_38 : decode cX9_spreads 38 = .ok (.istore_n 3, 1) := by decide +kernel
theorem dX9_spreads_39 : decode cX9_spreads 39 = .ok (.iload_n 3, 1) := by decide +kernel
theorem dX9_spreads_40 : decode cX9_spreads 40 = .ok (.iload_n 1, 1) := by decide +kernel
theorem dX9_spreads_41 : decode cX9_spreads 41 = .ok (.if_icmp .ge 67, 3) := by decide +kernel
theorem dX9_spreads_44 : decode cX9_spreads 44 = .ok (.aload_n 0, 1) := by decide +kernel
theorem dX9_spreads_45 : decode cX9_spreads 45 = .ok (.iload_n 2, 1) := by decide +kernel
theorem dX9_spreads_46 : decode cX9_spreads 46 = .ok (.iload_n 3, 1) := by decide +kernel
theorem dX9_spreads_47 : decode cX9_spreads 47 = .ok (.invokevirtual 68, 3) := by decide +kernel
theorem dX9_spreads_50 : decode cX9_spreads 50 = .ok (.ifCond .eq 27, 3) := by decide +kernel
theorem dX9_spreads_53 : decode cX9_spreads 53 = .ok (.aload_n 0, 1) := by decide +kernel
theorem dX9_spreads_54 : decode cX9_spreads 54 = .ok (.getfield 7, 3) := by decide +kernel
theorem dX9_spreads_57 : decode cX9_spreads 57 = .ok (.bipush 20, 2) := by decide +kernel
theorem dX9_spreads_59 : decode cX9_spreads 59 = .ok (.iload_n 2, 1) := by decide +kernel
theorem dX9_spreads_60 : decode cX9_spreads 60 = .ok (.iadd, 1) := by decide +kernel
theorem dX9_spreads_61 : decode cX9_spreads 61 = .ok (.iaload, 1) := by decide +kernel
theorem dX9_spreads_62 : decode cX9_spreads 62 = .ok (.aload_n 0, 1) := by decide +kernel
theorem dX9_spreads_63 : decode cX9_spreads 63 = .ok (.getfield 7, 3) := by decide +kernel
theorem dX9_spreads_66 : decode cX9_spreads 66 = .ok (.bipush 20, 2) := by decide +kernel
theorem dX9_spreads_68 : decode cX9_spreads 68 = .ok (.iload_n 3, 1) := by decide +kernel
theorem dX9_spreads_69 : decode cX9_spreads 69 = .ok (.iadd, 1) := by decide +kernel
theorem dX9_spreads_70 : decode cX9_spreads 70 = .ok (.iaload, 1) := by decide +kernel
theorem dX9_spreads_71 : decode cX9_spreads 71 = .ok (.isub, 1) := by decide +kernel
theorem dX9_spreads_72 : decode cX9_spreads 72 = .ok (.iconst 4, 1) := by decide +kernel
theorem dX9_spreads_73 : decode cX9_spreads 73 = .ok (.idiv, 1) := by decide +kernel
theorem dX9_spreads_74 : decode cX9_spreads 74 = .ok (.goto 4, 3) := by decide +kernel
theorem dX9_spreads_77 : decode cX9_spreads 77 = .ok (.iconst 0, 1) := by decide +kernel
theorem dX9_spreads_78 : decode cX9_spreads 78 = .ok (.istore 4, 2) := by decide +kernel
theorem dX9_spreads_80 : decode cX9_spreads 80 = .ok (.aload_n 0, 1) := by decide +kernel
theorem dX9_spreads_81 : decode cX9_spreads 81 = .ok (.getfield 19, 3) := by decide +kernel
theorem dX9_spreads_84 : decode cX9_spreads 84 = .ok (.iload_n 2, 1) := by decide +kernel
theorem dX9_spreads_85 : decode cX9_spreads 85 = .ok (.dup2, 1) := by decide +kernel
theorem dX9_spreads_86 : decode cX9_spreads 86 = .ok (.iaload, 1) := by decide +kernel
theorem dX9_spreads_87 : decode cX9_spreads 87 = .ok (.iload 4, 2) := by decide +kernel
theorem dX9_spreads_89 : decode cX9_spreads 89 = .ok (.isub, 1) := by decide +kernel
theorem dX9_spreads_90 : decode cX9_spreads 90 = .ok (.iastore, 1) := by decide +kernel
theorem dX9_spreads_91 : decode cX9_spreads 91 = .ok (.aload_n 0, 1) := by decide +kernel
theorem dX9_spreads_92 : decode cX9_spreads 92 = .ok (.getfield 19, 3) := by decide +kernel
theorem dX9_spreads_95 : decode cX9_spreads 95 = .ok (.iload_n 3, 1) := by decide +kernel
theorem dX9_spreads_96 : decode cX9_spreads 96 = .ok (.dup2, 1) := by decide +kernel
theorem dX9_spreads_97 : decode cX9_spreads 97 = .ok (.iaload, 1) := by decide +kernel
theorem dX9_spreads_98 : decode cX9_spreads 98 = .ok (.iload 4, 2) := by decide +kernel
theorem dX9_spreads_100 : decode cX9_spreads 100 = .ok (.iadd, 1) := by decide +kernel
theorem dX9_spreads_101 : decode cX9_spreads 101 = .ok (.iastore, 1) := by decide +kernel
theorem dX9_spreads_102 : decode cX9_spreads 102 = .ok (.iinc 3 1, 3) := by decide +kernel
theorem dX9_spreads_105 : decode cX9_spreads 105 = .ok (.goto (-66), 3) := by decide +kernel
theorem dX9_spreads_108 : decode cX9_spreads 108 = .ok (.aload_n 0, 1) := by decide +kernel
theorem dX9_spreads_109 : decode cX9_spreads 109 = .ok (.iload_n 2, 1) := by decide +kernel
theorem dX9_spreads_110 : decode cX9_spreads 110 = .ok (.iload_n 1, 1) := by decide +kernel
theorem dX9_spreads_111 : decode cX9_spreads 111 = .ok (.invokevirtual 68, 3) := by decide +kernel
theorem dX9_spreads_114 : decode cX9_spreads 114 = .ok (.ifCond .eq 17, 3) := by decide +kernel
theorem dX9_spreads_117 : decode cX9_spreads 117 = .ok (.aload_n 0, 1) := by decide +kernel
theorem dX9_spreads_118 : decode cX9_spreads 118 = .ok (.getfield 7, 3) := by decide +kernel
theorem dX9_spreads_121 : decode cX9_spreads 121 = .ok (.bipush 20, 2) := by decide +kernel
theorem dX9_spreads_123 : decode cX9_spreads 123 = .ok (.iload_n 2, 1) := by decide +kernel
theorem dX9_spreads_124 : decode cX9_spreads 124 = .ok (.iadd, 1) := by decide +kernel
theorem dX9_spreads_125 : decode cX9_spreads 125 = .ok (.iaload, 1) := by decide +kernel
theorem dX9_spreads_126 : decode cX9_spreads 126 = .ok (.iconst 4, 1) := by decide +kernel
theorem dX9_spreads_127 : decode cX9_spreads 127 = .ok (.idiv, 1) := by decide +kernel
theorem dX9_spreads_128 : decode cX9_spreads 128 = .ok (.goto 4, 3) := by decide +kernel
theorem dX9_spreads_131 : decode cX9_spreads 131 = .ok (.iconst 0, 1) := by decide +kernel
theorem dX9_spreads_132 : decode cX9_spreads 132 = .ok (.istore_n 3, 1) := by decide +kernel
theorem dX9_spreads_133 : decode cX9_spreads 133 = .ok (.aload_n 0, 1) := by decide +kernel
theorem dX9_spreads_134 : decode cX9_spreads 134 = .ok (.getfield 19, 3) := by decide +kernel
theorem dX9_spreads_137 : decode cX9_spreads 137 = .ok (.iload_n 2, 1) := by decide +kernel
theorem dX9_spreads_138 : decode cX9_spreads 138 = .ok (.dup2, 1) := by decide +kernel
theorem dX9_spreads_139 : decode cX9_spreads 139 = .ok (.iaload, 1) := by decide +kernel
theorem dX9_spreads_140 : decode cX9_spreads 140 = .ok (.iload_n 3, 1) := by decide +kernel
theorem dX9_spreads_141 : decode cX9_spreads 141 = .ok (.isub, 1) := by decide +kernel
theorem dX9_spreads_142 : decode cX9_spreads 142 = .ok (.iastore, 1) := by decide +kernel
theorem dX9_spreads_143 : decode cX9_spreads 143 = .ok (.aload_n 0, 1) := by decide +kernel
theorem dX9_spreads_144 : decode cX9_spreads 144 = .ok (.getfield 7, 3) := by decide +kernel
theorem dX9_spreads_147 : decode cX9_spreads 147 = .ok (.bipush 17, 2) := by decide +kernel
theorem dX9_spreads_149 : decode cX9_spreads 149 = .ok (.dup2, 1) := by decide +kernel
theorem dX9_spreads_150 : decode cX9_spreads 150 = .ok (.iaload, 1) := by decide +kernel
theorem dX9_spreads_151 : decode cX9_spreads 151 = .ok (.iload_n 3, 1) := by decide +kernel
theorem dX9_spreads_152 : decode cX9_spreads 152 = .ok (.iadd, 1) := by decide +kernel
theorem dX9_spreads_153 : decode cX9_spreads 153 = .ok (.iastore, 1) := by decide +kernel
theorem dX9_spreads_154 : decode cX9_spreads 154 = .ok (.iinc 2 1, 3) := by decide +kernel
theorem dX9_spreads_157 : decode cX9_spreads 157 = .ok (.goto (-127), 3) := by decide +kernel
theorem dX9_spreads_160 : decode cX9_spreads 160 = .ok (.iconst 0, 1) := by decide +kernel
theorem dX9_spreads_161 : decode cX9_spreads 161 = .ok (.istore_n 2, 1) := by decide +kernel
theorem dX9_spreads_162 : decode cX9_spreads 162 = .ok (.iload_n 2, 1) := by decide +kernel
theorem dX9_spreads_163 : decode cX9_spreads 163 = .ok (.iload_n 1, 1) := by decide +kernel
theorem dX9_spreads_164 : decode cX9_spreads 164 = .ok (.if_icmp .ge 49, 3) := by decide +kernel
theorem dX9_spreads_167 : decode cX9_spreads 167 = .ok (.aload_n 0, 1) := by decide +kernel
theorem dX9_spreads_168 : decode cX9_spreads 168 = .ok (.getfield 7, 3) := by decide +kernel
theorem dX9_spreads_171 : decode cX9_spreads 171 = .ok (.bipush 20, 2) := by decide +kernel
theorem dX9_spreads_173 : decode cX9_spreads 173 = .ok (.iload_n 2, 1) := by decide +kernel
theorem dX9_spreads_174 : decode cX9_spreads 174 = .ok (.iadd, 1) := by decide +kernel
theorem dX9_spreads_175 : decode cX9_spreads 175 = .ok (.iaload, 1) := by decide +kernel
theorem dX9_spreads_176 : decode cX9_spreads 176 = .ok (.aload_n 0, 1) := by decide +kernel
theorem dX9_spreads_177 : decode cX9_spreads 177 = .ok (.getfield 19, 3) := by decide +kernel
theorem dX9_spreads_180 : decode cX9_spreads 180 = .ok (.iload_n 2, 1) := by decide +kernel
theorem dX9_spreads_181 : decode cX9_spreads 181 = .ok (.iaload, 1) := by decide +kernel
theorem dX9_spreads_182 : decode cX9_spreads 182 = .ok (.iadd, 1) := by decide +kernel
theorem dX9_spreads_183 : decode cX9_spreads 183 = .ok (.istore_n 3, 1) := by decide +kernel
theorem dX9_spreads_184 : decode cX9_spreads 184 = .ok (.aload_n 0, 1) := by decide +kernel
theorem dX9_spreads_185 : decode cX9_spreads 185 = .ok (.getfield 7, 3) := by decide +kernel
theorem dX9_spreads_188 : decode cX9_spreads 188 = .ok (.bipush 20, 2) := by decide +kernel
theorem dX9_spreads_190 : decode cX9_spreads 190 = .ok (.iload_n 2, 1) := by decide +kernel
theorem dX9_spreads_191 : decode cX9_spreads 191 = .ok (.iadd, 1) := by decide +kernel
theorem dX9_spreads_192 : decode cX9_spreads 192 = .ok (.iload_n 3, 1) := by decide +kernel
theorem dX9_spreads_193 : decode cX9_spreads 193 = .ok (.ifCond .ge 7, 3) := by decide +kernel
theorem dX9_spreads_196 : decode cX9_spreads 196 = .ok (.iconst 0, 1) := by decide +kernel
theorem dX9_spreads_197 : decode cX9_spreads 197 = .ok (.goto 9, 3) := by decide +kernel
theorem dX9_spreads_200 : decode cX9_spreads 200 = .ok (.iload_n 3, 1) := by decide +kernel
theorem dX9_spreads_201 : decode cX9_spreads 201 = .ok (.ldc 79, 2) := by decide +kernel
theorem dX9_spreads_203 : decode cX9_spreads 203 = .ok (.invokestatic 76, 3) := by decide +kernel
theorem dX9_spreads_206 : decode cX9_spreads 206 = .ok (.iastore, 1) := by decide +kernel
theorem dX9_spreads_207 : decode cX9_spreads 207 = .ok (.iinc 2 1, 3) := by decide +kernel
theorem dX9_spreads_210 : decode cX9_spreads 210 = .ok (.goto (-48), 3) := by decide +kernel
theorem dX9_spreads_213 : decode cX9_spreads 213 = .ok (.return_, 1) := by decide +kernel
set_option maxRecDepth 20000 in
theorem ggX9_watches_X9_isExcited : GoodIn wsX9_watches wsX9_isExcited := goodIn_r _ [6, 1, 7, 8, 9, 5, 10, 11, 12, 13, 14, 15, 16, 17, 18, 38, 39, 40, 41, 42, 43, 44] (by decide +kernel) (by decide +kernel)
set_option maxRecDepth 20000 in
theorem gX9_watches_X9_isExcited : GoodIn wsX9_watches (wsV RX9 80 RX9 yX9_isExcited wsX9_isExcited) := goodIn_app (goodIn_of _ (by decide +kernel)) ggX9_watches_X9_isExcited
set_option maxRecDepth 20000 in
theorem ggX9_watches_X9_lesser : GoodIn wsX9_watches wsX9_lesser := goodIn_r _ [21] (by decide +kernel) (by decide +kernel)
set_option maxRecDepth 20000 in
theorem gX9_watches_X9_lesser : GoodIn wsX9_watches (va_wsS RX9 76 yX9_lesser wsX9_lesser) := goodIn_app (goodIn_of _ (by decide +kernel)) ggX9_watches_X9_lesser
set_option maxRecDepth 20000 in
theorem ggX9_watches_X9_isAgreed : GoodIn wsX9_watches wsX9_isAgreed := goodIn_r _ [25, 1, 26, 27, 28, 5, 29, 7, 8, 9, 10, 30, 31, 32, 33, 34, 35, 36, 37, 38, 39, 40, 41, 42, 43, 44] (by decide +kernel) (by decide +kernel)
set_option maxRecDepth 20000 in
theorem gX9_watches_X9_isAgreed : GoodIn wsX9_watches (wsV RX9 83 RX9 yX9_isAgreed wsX9_isAgreed) := goodIn_app (goodIn_of _ (by decide +kernel)) ggX9_watches_X9_isAgreed
theorem dX9_watches_0 : decode cX9_watches 0 = .ok (.iconst 0, 1) := by decide +kernel
theorem dX9_watches_1 : decode cX9_watches 1 = .ok (.istore_n 1, 1) := by decide +kernel
theorem dX9_watches_2 : decode cX9_watches 2 = .ok (.iload_n 1, 1) := by decide +kernel
theorem dX9_watches_3 : decode cX9_watches 3 = .ok (.aload_n 0, 1) := by decide +kernel
theorem dX9_watches_4 : decode cX9_watches 4 = .ok (.getfield 7, 3) := by decide +kernel
theorem dX9_watches_7 : decode cX9_watches 7 = .ok (.bipush 10, 2) := by decide +kernel
theorem dX9_watches_9 : decode cX9_watches 9 = .ok (.iaload, 1) := by decide +kernel
theorem dX9_watches_10 : decode cX9_watches 10 = .ok (.if_icmp .ge 51, 3) := by decide +kernel
theorem dX9_watches_13 : decode cX9_watches 13 = .ok (.bipush 57, 2) := by decide +kernel
theorem dX9_watches_15 : decode cX9_watches 15 = .ok (.bipush 7, 2) := by decide +kernel
theorem dX9_watches_17 : decode cX9_watches 17 = .ok (.iload_n 1, 1) := by decide +kernel
theorem dX9_watches_18 : decode cX9_watches 18 = .ok (.imul, 1) := by decide +kernel
theorem dX9_watches_19 : decode cX9_watches 19 = .ok (.iadd, 1) := by decide +kernel
theorem dX9_watches_20 : decode cX9_watches 20 = .ok (.bipush 6, 2) := by decide +kernel
theorem dX9_watches_22 : decode cX9_watches 22 = .ok (.iadd, 1) := by decide +kernel
theorem dX9_watches_23 : decode cX9_watches 23 = .ok (.istore_n 2, 1) := by decide +kernel
theorem dX9_watches_24 : decode cX9_watches 24 = .ok (.aload_n 0, 1) := by decide +kernel
theorem dX9_watches_25 : decode cX9_watches 25 = .ok (.getfield 7, 3) := by decide +kernel
theorem dX9_watches_28 : decode cX9_watches 28 = .ok (.iload_n 2, 1) := by decide +kernel
theorem dX9_watches_29 : decode cX9_watches 29 = .ok (.aload_n 0, 1) := by decide +kernel
theorem dX9_watches_30 : decode cX9_watches 30 = .ok (.iload_n 1, 1) := by decide +kernel
theorem dX9_watches_31 : decode cX9_watches 31 = .ok (.invokevirtual 80, 3) := by decide +kernel
theorem dX9_watches_34 : decode cX9_watches 34 = .ok (.ifCond .eq 19, 3) := by decide +kernel
theorem dX9_watches_37 : decode cX9_watches 37 = .ok (.bipush 99, 2) := by decide +kernel
theorem dX9_watches_39 : decode cX9_watches 39 = .ok (.aload_n 0, 1) := by decide +kernel
theorem dX9_watches_40 : decode cX9_watches 40 = .ok (.getfield 7, 3) := by decide +kernel
theorem dX9_watches_43 : decode cX9_watches 43 = .ok (.iload_n 2, 1) := by decide +kernel
theorem dX9_watches_44 : decode cX9_watches 44 = .ok (.iaload, 1) := by decide +kernel
theorem dX9_watches_45 : decode cX9_watches 45 = .ok (.iconst 1, 1) := by decide +kernel
theorem dX9_watches_46 : decode cX9_watches 46 = .ok (.iadd, 1) := by decide +kernel
theorem dX9_watches_47 : decode cX9_watches 47 = .ok (.invokestatic 76, 3) := by decide +kernel
theorem dX9_watches_50 : decode cX9_watches 50 = .ok (.goto 4, 3) := by decide +kernel
theorem dX9_watches_53 : decode cX9_watches 53 = .ok (.iconst 0, 1) := by decide +kernel
theorem dX9_watches_54 : decode cX9_watches 54 = .ok (.iastore, 1) := by decide +kernel
theorem dX9_watches_55 : decode cX9_watches 55 = .ok (.iinc 1 1, 3) := by decide +kernel
theorem dX9_watches_58 : decode cX9_watches 58 = .ok (.goto (-56), 3) := by decide +kernel
theorem dX9_watches_61 : decode cX9_watches 61 = .ok (.iconst 0, 1) := by decide +kernel
theorem dX9_watches_62 : decode cX9_watches 62 = .ok (.istore_n 1, 1) := by decide +kernel
theorem dX9_watches_63 : decode cX9_watches 63 = .ok (.iconst 0, 1) := by decide +kernel
theorem dX9_watches_64 : decode cX9_watches 64 = .ok (.istore_n 2, 1) := by decide +kernel
theorem dX9_watches_65 : decode cX9_watches 65 = .ok (.iload_n 2, 1) := by decide +kernel
theorem dX9_watches_66 : decode cX9_watches 66 = .ok (.aload_n 0, 1) := by decide +kernel
theorem dX9_watches_67 : decode cX9_watches 67 = .ok (.getfield 7, 3) := by decide +kernel
theorem dX9_watches_70 : decode cX9_watches 70 = .ok (.bipush 6, 2) := by decide +kernel
theorem dX9_watches_72 : decode cX9_watches 72 = .ok (.iaload, 1) := by decide +kernel
theorem dX9_watches_73 : decode cX9_watches 73 = .ok (.if_icmp .ge 106, 3) := by decide +kernel
theorem dX9_watches_76 : decode cX9_watches 76 = .ok (.aload_n 0, 1) := by decide +kernel
theorem dX9_watches_77 : decode cX9_watches 77 = .ok (.iload_n 2, 1) := by decide +kernel
theorem dX9_watches_78 : decode cX9_watches 78 = .ok (.invokevirtual 83, 3) := by decide +kernel
theorem dX9_watches_81 : decode cX9_watches 81 = .ok (.istore_n 3, 1) := by decide +kernel
theorem dX9_watches_82 : decode cX9_watches 82 = .ok (.iload_n 1, 1) := by decide +kernel
theorem dX9_watches_83 : decode cX9_watches 83 = .ok (.ifCond .ne 7, 3) := by decide +kernel
theorem dX9_watches_86 : decode cX9_watches 86 = .ok (.iload_n 3, 1) := by decide +kernel
theorem dX9_watches_87 : decode cX9_watches 87 = .ok (.ifCond .eq 7, 3) := by decide +kernel
theorem dX9_watches_90 : decode cX9_watches 90 = .ok (.iconst 1, 1) := by decide +kernel
theorem dX9_watches_91 : decode cX9_watches 91 = .ok (.goto 4, 3) := by decide +kernel
theorem dX9_watches_94 : decode cX9_watches 94 = .ok (.iconst 0, 1) := by decide +kernel
theorem dX9_watches_95 : decode cX9_watches 95 = .ok (.istore_n 1, 1) := by decide +kernel
theorem dX9_watches_96 : decode cX9_watches 96 = .ok (.aload_n 0, 1) := by decide +kernel
theorem dX9_watches_97 : decode cX9_watches 97 = .ok (.getfield 7, 3) := by decide +kernel
theorem dX9_watches_100 : decode cX9_watches 100 = .ok (.bipush 28, 2) := by decide +kernel
theorem dX9_watches_102 : decode cX9_watches 102 = .ok (.iload_n 2, 1) := by decide +kernel
theorem dX9_watches_103 : decode cX9_watches 103 = .ok (.iadd, 1) := by decide +kernel
theorem dX9_watches_104 : decode cX9_watches 104 = .ok (.dup2, 1) := by decide +kernel
theorem dX9_watches_105 : decode cX9_watches 105 = .ok (.iaload, 1) := by decide +kernel
theorem dX9_watches_106 : decode cX9_watches 106 = .ok (.aload_n 0, 1) := by decide +kernel
theorem dX9_watches_107 : decode cX9_watches 107 = .ok (.getfield 7, 3) := by decide +kernel
theorem dX9_watches_110 : decode cX9_watches 110 = .ok (.bipush 28, 2) := by decide +kernel
theorem dX9_watches_112 : decode cX9_watches 112 = .ok (.iload_n 2, 1) := by decide +kernel
theorem dX9_watches_113 : decode cX9_watches 113 = .ok (.iadd, 1) := by decide +kernel
theorem dX9_watches_114 : decode cX9_watches 114 = .ok (.iaload, 1) := by decide +kernel
theorem dX9_watches_115 : decode cX9_watches 115 = .ok (.ifCond .le 7, 3) := by decide +kernel
theorem dX9_watches_118 : decode cX9_watches 118 = .ok (.iconst 1, 1) := by decide +kernel
theorem dX9_watches_119 : decode cX9_watches 119 = .ok (.goto 4, 3) := by decide +kernel
theorem dX9_watches_122 : decode cX9_watches 122 = .ok (.iconst 0, 1) := by decide +kernel
theorem dX9_watches_123 : decode cX9_watches 123 = .ok (.isub, 1) := by decide +kernel
theorem dX9_watches_124 : decode cX9_watches 124 = .ok (.iastore, 1) := by decide +kernel
theorem dX9_watches_125 : decode cX9_watches 125 = .ok (.aload_n 0, 1) := by decide +kernel
theorem dX9_watches_126 : decode cX9_watches 126 = .ok (.getfield 7, 3) := by decide +kernel
theorem dX9_watches_129 : decode cX9_watches 129 = .ok (.bipush 24, 2) := by decide +kernel
theorem dX9_watches_131 : decode cX9_watches 131 = .ok (.iload_n 2, 1) := by decide +kernel
theorem dX9_watches_132 : decode cX9_watches 132 = .ok (.iadd, 1) := by decide +kernel
theorem dX9_watches_133 : decode cX9_watches 133 = .ok (.iaload, 1) := by decide +kernel
theorem dX9_watches_134 : decode cX9_watches 134 = .ok (.istore 4, 2) := by decide +kernel
theorem dX9_watches_136 : decode cX9_watches 136 = .ok (.aload_n 0, 1) := by decide +kernel
theorem dX9_watches_137 : decode cX9_watches 137 = .ok (.getfield 7, 3) := by decide +kernel
theorem dX9_watches_140 : decode cX9_watches 140 = .ok (.bipush 24, 2) := by decide +kernel
theorem dX9_watches_142 : decode cX9_watches 142 = .ok (.iload_n 2, 1) := by decide +kernel
theorem dX9_watches_143 : decode cX9_watches 143 = .ok (.iadd, 1) := by decide +kernel
theorem dX9_watches_144 : decode cX9_watches 144 = .ok (.iload_n 3, 1) := by decide +kernel
theorem dX9_watches_145 : decode cX9_watches 145 = .ok (.ifCond .eq 14, 3) := by decide +kernel
theorem dX9_watches_148 : decode cX9_watches 148 = .ok (.aload_n 0, 1) := by decide +kernel
theorem dX9_watches_149 : decode cX9_watches 149 = .ok (.getfield 7, 3) := by decide +kernel
theorem dX9_watches_152 : decode cX9_watches 152 = .ok (.iconst 2, 1) := by decide +kernel
theorem dX9_watches_153 : decode cX9_watches 153 = .ok (.iaload, 1) := by decide +kernel
theorem dX9_watches_154 : decode cX9_watches 154 = .ok (.iconst 1, 1) := by decide +kernel
theorem dX9_watches_155 : decode cX9_watches 155 = .ok (.iadd, 1) := by decide +kernel
theorem dX9_watches_156 : decode cX9_watches 156 = .ok (.goto 16, 3) := by decide +kernel
theorem dX9_watches_159 : decode cX9_watches 159 = .ok (.iload 4, 2) := by decide +kernel
theorem dX9_watches_161 : decode cX9_watches 161 = .ok (.ifCond .le 10, 3) := by decide +kernel
theorem dX9_watches_164 : decode cX9_watches 164 = .ok (.iload 4, 2) := by decide +kernel
theorem dX9_watches_166 : decode cX9_watches 166 = .ok (.iconst 1, 1) := by decide +kernel
theorem dX9_watches_167 : decode cX9_watches 167 = .ok (.isub, 1) := by decide +kernel
theorem dX9_watches_168 : decode cX9_watches 168 = .ok (.goto 4, 3) := by decide +kernel
theorem dX9_watches_171 : decode cX9_watches 171 = .ok (.iconst 0, 1) := by decide +kernel
theorem dX9_watches_172 : decode cX9_watches 172 = .ok (.iastore, 1) := by decide +kernel
theorem dX9_watches_173 : decode cX9_watches 173 = .ok (.iinc 2 1, 3) := by decide +kernel
theorem dX9_watches_176 : decode cX9_watches 176 = .ok (.goto (-111), 3) := by decide +kernel
theorem dX9_watches_179 : decode cX9_watches 179 = .ok (.aload_n 0, 1) := by decide +kernel
theorem dX9_watches_180 : decode cX9_watches 180 = .ok (.getfield 7, 3) := by decide +kernel
theorem dX9_watches_183 : decode cX9_watches 183 = .ok (.bipush 18, 2) := by decide +kernel
theorem dX9_watches_185 : decode cX9_watches 185 = .ok (.dup2, 1) := by decide +kernel
theorem dX9_watches_186 : decode cX9_watches 186 = .ok (.iaload, 1) := by decide +kernel
theorem dX9_watches_187 : decode cX9_watches 187 = .ok (.iload_n 1, 1) := by decide +kernel
theorem dX9_watches_188 : decode cX9_watches 188 = .ok (.ifCond .eq 7, 3) := by decide +kernel
theorem dX9_watches_191 : decode cX9_watches 191 = .ok (.iconst 1, 1) := by decide +kernel
theorem dX9_watches_192 : decode cX9_watches 192 = .ok (.goto 4, 3) := by decide +kernel
theorem dX9_watches_195 : decode cX9_watches 195 = .ok (.iconst 0, 1) := by decide +kernel
theorem dX9_watches_196 : decode cX9_watches 196 = .ok (.iadd, 1) := by decide +kernel
theorem dX9_watches_197 : decode cX9_watches 197 = .ok (.iastore, 1) := by decide +kernel
theorem dX9_watches_198 : decode cX9_watches 198 = .ok (.return_, 1) := by decide +kernel
set_option maxRecDepth 20000 in
theorem ggX9_moves_X9_firstRule : GoodIn wsX9_moves wsX9_firstRule := goodIn_r _ [6, 1, 7, 8, 9, 5, 10, 11, 12, 13, 14, 15, 16, 17, 18, 19, 20, 21, 22, 23, 24, 25, 26, 27, 28, 29] (by decide +kernel) (by decide +kernel)
set_option maxRecDepth 20000 in
theorem gX9_moves_X9_firstRule : GoodIn wsX9_moves (wsV RX9 86 RX9 yX9_firstRule wsX9_firstRule) := goodIn_app (goodIn_of _ (by decide +kernel)) ggX9_moves_X9_firstRule
theorem dX9_moves_0 : decode cX9_moves 0 = .ok (.aload_n 0, 1) := by decide +kernel
theorem dX9_moves_1 : decode cX9_moves 1 = .ok (.invokevirtual 86, 3) := by decide +kernel
theorem dX9_moves_4 : decode cX9_moves 4 = .ok (.istore_n 1, 1) := by decide +kernel
theorem dX9_moves_5 : decode cX9_moves 5 = .ok (.aload_n 0, 1) := by decide +kernel
theorem dX9_moves_6 : decode cX9_moves 6 = .ok (.getfield 7, 3) := by decide +kernel
theorem dX9_moves_9 : decode cX9_moves 9 = .ok (.bipush 9, 2) := by decide +kernel
theorem dX9_moves_11 : decode cX9_moves 11 = .ok (.iload_n 1, 1) := by decide +kernel
theorem dX9_moves_12 : decode cX9_moves 12 = .ok (.iconst (-1), 1) := by decide +kernel
theorem dX9_moves_13 : decode cX9_moves 13 = .ok (.if_icmp .ne 13, 3) := by decide +kernel
theorem dX9_moves_16 : decode cX9_moves 16 = .ok (.aload_n 0, 1) := by decide +kernel
theorem dX9_moves_17 : decode cX9_moves 17 = .ok (.getfield 7, 3) := by decide +kernel
theorem dX9_moves_20 : decode cX9_moves 20 = .ok (.bipush 9, 2) := by decide +kernel
theorem dX9_moves_22 : decode cX9_moves 22 = .ok (.iaload, 1) := by decide +kernel
theorem dX9_moves_23 : decode cX9_moves 23 = .ok (.goto 16, 3) := by decide +kernel
theorem dX9_moves_26 : decode cX9_moves 26 = .ok (.aload_n 0, 1) := by decide +kernel
theorem dX9_moves_27 : decode cX9_moves 27 = .ok (.getfield 7, 3) := by decide +kernel
theorem dX9_moves_30 : decode cX9_moves 30 = .ok (.bipush 113, 2) := by decide +kernel
theorem dX9_moves_32 : decode cX9_moves 32 = .ok (.iconst 4, 1) := by decide +kernel
theorem dX9_moves_33 : decode cX9_moves 33 = .ok (.iload_n 1, 1) := by decide +kernel
theorem dX9_moves_34 : decode cX9_moves 34 = .ok (.imul, 1) := by decide +kernel
theorem dX9_moves_35 : decode cX9_moves 35 = .ok (.iadd, 1) := by decide +kernel
theorem dX9_moves_36 : decode cX9_moves 36 = .ok (.iconst 3, 1) := by decide +kernel
theorem dX9_moves_37 : decode cX9_moves 37 = .ok (.iadd, 1) := by decide +kernel
theorem dX9_moves_38 : decode cX9_moves 38 = .ok (.iaload, 1) := by decide +kernel
theorem dX9_moves_39 : decode cX9_moves 39 = .ok (.iastore, 1) := by decide +kernel
theorem dX9_moves_40 : decode cX9_moves 40 = .ok (.aload_n 0, 1) := by decide +kernel
theorem dX9_moves_41 : decode cX9_moves 41 = .ok (.getfield 7, 3) := by decide +kernel
theorem dX9_moves_44 : decode cX9_moves 44 = .ok (.iconst 3, 1) := by decide +kernel
theorem dX9_moves_45 : decode cX9_moves 45 = .ok (.iaload, 1) := by decide +kernel
theorem dX9_moves_46 : decode cX9_moves 46 = .ok (.ifCond .ne 60, 3) := by decide +kernel
theorem dX9_moves_49 : decode cX9_moves 49 = .ok (.aload_n 0, 1) := by decide +kernel
theorem dX9_moves_50 : decode cX9_moves 50 = .ok (.getfield 7, 3) := by decide +kernel
theorem dX9_moves_53 : decode cX9_moves 53 = .ok (.iconst 4, 1) := by decide +kernel
theorem dX9_moves_54 : decode cX9_moves 54 = .ok (.iaload, 1) := by decide +kernel
theorem dX9_moves_55 : decode cX9_moves 55 = .ok (.aload_n 0, 1) := by decide +kernel
theorem dX9_moves_56 : decode cX9_moves 56 = .ok (.getfield 7, 3) := by decide +kernel
theorem dX9_moves_59 : decode cX9_moves 59 = .ok (.bipush 9, 2) := by decide +kernel
theorem dX9_moves_61 : decode cX9_moves 61 = .ok (.iaload, 1) := by decide +kernel
theorem dX9_moves_62 : decode cX9_moves 62 = .ok (.if_icmp .eq 44, 3) := by decide +kernel
theorem dX9_moves_65 : decode cX9_moves 65 = .ok (.aload_n 0, 1) := by decide +kernel
theorem dX9_moves_66 : decode cX9_moves 66 = .ok (.getfield 7, 3) := by decide +kernel
theorem dX9_moves_69 : decode cX9_moves 69 = .ok (.iconst 4, 1) := by decide +kernel
theorem dX9_moves_70 : decode cX9_moves 70 = .ok (.dup2, 1) := by decide +kernel
theorem dX9_moves_71 : decode cX9_moves 71 = .ok (.iaload, 1) := by decide +kernel
theorem dX9_moves_72 : decode cX9_moves 72 = .ok (.aload_n 0, 1) := by decide +kernel
theorem dX9_moves_73 : decode cX9_moves 73 = .ok (.getfield 7, 3) := by decide +kernel
theorem dX9_moves_76 : decode cX9_moves 76 = .ok (.iconst 4, 1) := by decide +kernel
theorem dX9_moves_77 : decode cX9_moves 77 = .ok (.iaload, 1) := by decide +kernel
theorem dX9_moves_78 : decode cX9_moves 78 = .ok (.aload_n 0, 1) := by decide +kernel
theorem dX9_moves_79 : decode cX9_moves 79 = .ok (.getfield 7, 3) := by decide +kernel
theorem dX9_moves_82 : decode cX9_moves 82 = .ok (.bipush 9, 2) := by decide +kernel
theorem dX9_moves_84 : decode cX9_moves 84 = .ok (.iaload, 1) := by decide +kernel
theorem dX9_moves_85 : decode cX9_moves 85 = .ok (.if_icmp .ge 7, 3) := by decide +kernel
theorem dX9_moves_88 : decode cX9_moves 88 = .ok (.iconst 1, 1) := by decide +kernel
theorem dX9_moves_89 : decode cX9_moves 89 = .ok (.goto 4, 3) := by decide +kernel
theorem dX9_moves_92 : decode cX9_moves 92 = .ok (.iconst (-1), 1) := by decide +kernel
theorem dX9_moves_93 : decode cX9_moves 93 = .ok (.iadd, 1) := by decide +kernel
theorem dX9_moves_94 : decode cX9_moves 94 = .ok (.iastore, 1) := by decide +kernel
theorem dX9_moves_95 : decode cX9_moves 95 = .ok (.aload_n 0, 1) := by decide +kernel
theorem dX9_moves_96 : decode cX9_moves 96 = .ok (.getfield 7, 3) := by decide +kernel
theorem dX9_moves_99 : decode cX9_moves 99 = .ok (.bipush 14, 2) := by decide +kernel
theorem dX9_moves_101 : decode cX9_moves 101 = .ok (.dup2, 1) := by decide +kernel
theorem dX9_moves_102 : decode cX9_moves 102 = .ok (.iaload, 1) := by decide +kernel
theorem dX9_moves_103 : decode cX9_moves 103 = .ok (.iconst 1, 1) := by decide +kernel
theorem dX9_moves_104 : decode cX9_moves 104 = .ok (.iadd, 1) := by decide +kernel
theorem dX9_moves_105 : decode cX9_moves 105 = .ok (.iastore, 1) := by decide +kernel
theorem dX9_moves_106 : decode cX9_moves 106 = .ok (.return_, 1) := by decide +kernel
set_option maxRecDepth 20000 in
theorem ggX9_alarms_X9_hasAlarm : GoodIn wsX9_alarms wsX9_hasAlarm := goodIn_r _ [6, 1, 7, 8, 9, 10, 11, 12, 13] (by decide +kernel) (by decide +kernel)
set_option maxRecDepth 20000 in
theorem gX9_alarms_X9_hasAlarm : GoodIn wsX9_alarms (wsV RX9 62 RX9 yX9_hasAlarm wsX9_hasAlarm) := goodIn_app (goodIn_of _ (by decide +kernel)) ggX9_alarms_X9_hasAlarm
theorem dX9_alarms_0 : decode cX9_alarms 0 = .ok (.iconst 0, 1) := by decide +kernel
theorem dX9_alarms_1 : decode cX9_alarms 1 = .ok (.istore_n 1, 1) := by decide +kernel
theorem dX9_alarms_2 : decode cX9_alarms 2 = .ok (.iconst 0, 1) := by decide +kernel
theorem dX9_alarms_3 : decode cX9_alarms 3 = .ok (.istore_n 2, 1) := by decide +kernel
theorem dX9_alarms_4 : decode cX9_alarms 4 = .ok (.iload_n 2, 1) := by decide +kernel
theorem dX9_alarms_5 : decode cX9_alarms 5 = .ok (.aload_n 0, 1) := by decide +kernel
theorem dX9_alarms_6 : decode cX9_alarms 6 = .ok (.getfield 7, 3) := by decide +kernel
theorem dX9_alarms_9 : decode cX9_alarms 9 = .ok (.bipush 6, 2) := by decide +kernel
theorem dX9_alarms_11 : decode cX9_alarms 11 = .ok (.iaload, 1) := by decide +kernel
theorem dX9_alarms_12 : decode cX9_alarms 12 = .ok (.if_icmp .ge 27, 3) := by decide +kernel
theorem dX9_alarms_15 : decode cX9_alarms 15 = .ok (.iload_n 1, 1) := by decide +kernel
theorem dX9_alarms_16 : decode cX9_alarms 16 = .ok (.aload_n 0, 1) := by decide +kernel
theorem dX9_alarms_17 : decode cX9_alarms 17 = .ok (.iload_n 2, 1) := by decide +kernel
theorem dX9_alarms_18 : decode cX9_alarms 18 = .ok (.invokevirtual 62, 3) := by decide +kernel
theorem dX9_alarms_21 : decode cX9_alarms 21 = .ok (.ifCond .eq 9, 3) := by decide +kernel
theorem dX9_alarms_24 : decode cX9_alarms 24 = .ok (.iconst 1, 1) := by decide +kernel
theorem dX9_alarms_25 : decode cX9_alarms 25 = .ok (.iload_n 2, 1) := by decide +kernel
theorem dX9_alarms_26 : decode cX9_alarms 26 = .ok (.ishl, 1) := by decide +kernel
theorem dX9_alarms_27 : decode cX9_alarms 27 = .ok (.goto 4, 3) := by decide +kernel
theorem dX9_alarms_30 : decode cX9_alarms 30 = .ok (.iconst 0, 1) := by decide +kernel
theorem dX9_alarms_31 : decode cX9_alarms 31 = .ok (.ior, 1) := by decide +kernel
theorem dX9_alarms_32 : decode cX9_alarms 32 = .ok (.istore_n 1, 1) := by decide +kernel
theorem dX9_alarms_33 : decode cX9_alarms 33 = .ok (.iinc 2 1, 3) := by decide +kernel
theorem dX9_alarms_36 : decode cX9_alarms 36 = .ok (.goto (-32), 3) := by decide +kernel
theorem dX9_alarms_39 : decode cX9_alarms 39 = .ok (.iload_n 1, 1) := by decide +kernel
theorem dX9_alarms_40 : decode cX9_alarms 40 = .ok (.ireturn, 1) := by decide +kernel
set_option maxRecDepth 20000 in
theorem ggX9_minutes_X9_alarms : GoodIn wsX9_minutes wsX9_alarms := goodIn_r _ [6, 1, 7, 8, 9, 5, 10, 84, 85, 86, 87, 88, 89, 90] (by decide +kernel) (by decide +kernel)
set_option maxRecDepth 20000 in
theorem gX9_minutes_X9_alarms : GoodIn wsX9_minutes (wsV RX9 89 RX9 yX9_alarms wsX9_alarms) := goodIn_app (goodIn_of _ (by decide +kernel)) ggX9_minutes_X9_alarms
set_option maxRecDepth 20000 in
theorem ggX9_minutes_X9_comes : GoodIn wsX9_minutes wsX9_comes := goodIn_r _ [14, 1, 15, 16, 17, 5, 18, 19, 20, 21, 22, 84, 85, 86, 87, 88, 89, 90] (by decide +kernel) (by decide +kernel)
set_option maxRecDepth 20000 in
theorem gX9_minutes_X9_comes : GoodIn wsX9_minutes (wsV RX9 92 RX9 yX9_comes wsX9_comes) := goodIn_app (goodIn_of _ (by decide +kernel)) ggX9_minutes_X9_comes
set_option maxRecDepth 20000 in
theorem ggX9_minutes_X9_burns : GoodIn wsX9_minutes wsX9_burns := goodIn_r _ [26, 1, 27, 28, 29, 5, 30, 31, 32, 33, 34, 35, 36, 37, 84, 85, 86, 87, 88, 89, 90] (by decide +kernel) (by decide +kernel)
set_option maxRecDepth 20000 in
theorem gX9_minutes_X9_burns : GoodIn wsX9_minutes (wsV RX9 95 RX9 yX9_burns wsX9_burns) := goodIn_app (goodIn_of _ (by decide +kernel)) ggX9_minutes_X9_burns
set_option maxRecDepth 20000 in
theorem ggX9_minutes_X9_spreads : GoodIn wsX9_minutes wsX9_spreads := goodIn_r _ [41, 1, 42, 43, 15, 16, 17, 5, 18, 31, 32, 33, 84, 85, 86, 87, 88, 89, 90] (by decide +kernel) (by decide +kernel)
set_option maxRecDepth 20000 in
theorem gX9_minutes_X9_spreads : GoodIn wsX9_minutes (wsV RX9 98 RX9 yX9_spreads wsX9_spreads) := goodIn_app (goodIn_of _ (by decide +kernel)) ggX9_minutes_X9_spreads
set_option maxRecDepth 20000 in
theorem ggX9_minutes_X9_watches : GoodIn wsX9_minutes wsX9_watches := goodIn_r _ [47, 1, 48, 49, 50, 5, 51, 52, 53, 54, 55, 34, 35, 36, 37, 27, 28, 29, 30, 31, 32, 33, 56, 57, 58, 59, 60, 61, 62, 63, 64, 65, 66, 67, 68, 69, 70, 71, 84, 85, 86, 87, 88, 89, 90] (by decide +kernel) (by decide +kernel)
set_option maxRecDepth 20000 in
theorem gX9_minutes_X9_watches : GoodIn wsX9_minutes (wsV RX9 101 RX9 yX9_watches wsX9_watches) := goodIn_app (goodIn_of _ (by decide +kernel)) ggX9_minutes_X9_watches
set_option maxRecDepth 20000 in
theorem ggX9_minutes_X9_moves : GoodIn wsX9_minutes wsX9_moves := goodIn_r _ [75, 1, 76, 77, 78, 5, 79, 80, 81, 82, 83, 34, 35, 36, 37, 7, 8, 9, 10, 27, 28, 29, 30, 84, 85, 86, 87, 88, 89, 90] (by decide +kernel) (by decide +kernel)
set_option maxRecDepth 20000 in
theorem gX9_minutes_X9_moves : GoodIn wsX9_minutes (wsV RX9 104 RX9 yX9_moves wsX9_moves) := goodIn_app (goodIn_of _ (by decide +kernel)) ggX9_minutes_X9_moves
theorem dX9_minutes_0 : decode cX9_minutes 0 = .ok (.aload_n 0, 1) := by decide +kernel
theorem dX9_minutes_1 : decode cX9_minutes 1 = .ok (.invokevirtual 89, 3) := by decide +kernel
theorem dX9_minutes_4 : decode cX9_minutes 4 = .ok (.istore_n 1, 1) := by decide +kernel
theorem dX9_minutes_5 : decode cX9_minutes 5 = .ok (.aload_n 0, 1) := by decide +kernel
theorem dX9_minutes_6 : decode cX9_minutes 6 = .ok (.getfield 7, 3) := by decide +kernel
theorem dX9_minutes_9 : decode cX9_minutes 9 = .ok (.bipush 7, 2) := by decide +kernel
theorem dX9_minutes_11 : decode cX9_minutes 11 = .ok (.dup2, 1) := by decide +kernel
theorem dX9_minutes_12 : decode cX9_minutes 12 = .ok (.iaload, 1) := by decide +kernel
theorem dX9_minutes_13 : decode cX9_minutes 13 = .ok (.iconst 1, 1) := by decide +kernel
theorem dX9_minutes_14 : decode cX9_minutes 14 = .ok (.iadd, 1) := by decide +kernel
theorem dX9_minutes_15 : decode cX9_minutes 15 = .ok (.iastore, 1) := by decide +kernel
theorem dX9_minutes_16 : decode cX9_minutes 16 = .ok (.aload_n 0, 1) := by decide +kernel
theorem dX9_minutes_17 : decode cX9_minutes 17 = .ok (.invokevirtual 92, 3) := by decide +kernel
theorem dX9_minutes_20 : decode cX9_minutes 20 = .ok (.aload_n 0, 1) := by decide +kernel
theorem dX9_minutes_21 : decode cX9_minutes 21 = .ok (.invokevirtual 95, 3) := by decide +kernel
theorem dX9_minutes_24 : decode cX9_minutes 24 = .ok (.aload_n 0, 1) := by decide +kernel
theorem dX9_minutes_25 : decode cX9_minutes 25 = .ok (.invokevirtual 98, 3) := by decide +kernel
theorem dX9_minutes_28 : decode cX9_minutes 28 = .ok (.aload_n 0, 1) := by decide +kernel
theorem dX9_minutes_29 : decode cX9_minutes 29 = .ok (.invokevirtual 101, 3) := by decide +kernel
theorem dX9_minutes_32 : decode cX9_minutes 32 = .ok (.aload_n 0, 1) := by decide +kernel
theorem dX9_minutes_33 : decode cX9_minutes 33 = .ok (.invokevirtual 104, 3) := by decide +kernel
theorem dX9_minutes_36 : decode cX9_minutes 36 = .ok (.aload_n 0, 1) := by decide +kernel
theorem dX9_minutes_37 : decode cX9_minutes 37 = .ok (.invokevirtual 89, 3) := by decide +kernel
theorem dX9_minutes_40 : decode cX9_minutes 40 = .ok (.iload_n 1, 1) := by decide +kernel
theorem dX9_minutes_41 : decode cX9_minutes 41 = .ok (.iconst (-1), 1) := by decide +kernel
theorem dX9_minutes_42 : decode cX9_minutes 42 = .ok (.ixor, 1) := by decide +kernel
theorem dX9_minutes_43 : decode cX9_minutes 43 = .ok (.iand, 1) := by decide +kernel
theorem dX9_minutes_44 : decode cX9_minutes 44 = .ok (.istore_n 2, 1) := by decide +kernel
theorem dX9_minutes_45 : decode cX9_minutes 45 = .ok (.iconst 0, 1) := by decide +kernel
theorem dX9_minutes_46 : decode cX9_minutes 46 = .ok (.istore_n 3, 1) := by decide +kernel
theorem dX9_minutes_47 : decode cX9_minutes 47 = .ok (.iconst 0, 1) := by decide +kernel
theorem dX9_minutes_48 : decode cX9_minutes 48 = .ok (.istore 4, 2) := by decide +kernel
theorem dX9_minutes_50 : decode cX9_minutes 50 = .ok (.iload 4, 2) := by decide +kernel
theorem dX9_minutes_52 : decode cX9_minutes 52 = .ok (.iconst 4, 1) := by decide +kernel
theorem dX9_minutes_53 : decode cX9_minutes 53 = .ok (.if_icmp .ge 18, 3) := by decide +kernel
theorem dX9_minutes_56 : decode cX9_minutes 56 = .ok (.iload_n 3, 1) := by decide +kernel
theorem dX9_minutes_57 : decode cX9_minutes 57 = .ok (.iload_n 2, 1) := by decide +kernel
theorem dX9_minutes_58 : decode cX9_minutes 58 = .ok (.iload 4, 2) := by decide +kernel
theorem dX9_minutes_60 : decode cX9_minutes 60 = .ok (.ishr, 1) := by decide +kernel
theorem dX9_minutes_61 : decode cX9_minutes 61 = .ok (.iconst 1, 1) := by decide +kernel
theorem dX9_minutes_62 : decode cX9_minutes 62 = .ok (.iand, 1) := by decide +kernel
theorem dX9_minutes_63 : decode cX9_minutes 63 = .ok (.iadd, 1) := by decide +kernel
theorem dX9_minutes_64 : decode cX9_minutes 64 = .ok (.istore_n 3, 1) := by decide +kernel
theorem dX9_minutes_65 : decode cX9_minutes 65 = .ok (.iinc 4 1, 3) := by decide +kernel
theorem dX9_minutes_68 : decode cX9_minutes 68 = .ok (.goto (-18), 3) := by decide +kernel
theorem dX9_minutes_71 : decode cX9_minutes 71 = .ok (.aload_n 0, 1) := by decide +kernel
theorem dX9_minutes_72 : decode cX9_minutes 72 = .ok (.getfield 7, 3) := by decide +kernel
theorem dX9_minutes_75 : decode cX9_minutes 75 = .ok (.bipush 13, 2) := by decide +kernel
theorem dX9_minutes_77 : decode cX9_minutes 77 = .ok (.dup2, 1) := by decide +kernel
theorem dX9_minutes_78 : decode cX9_minutes 78 = .ok (.iaload, 1) := by decide +kernel
theorem dX9_minutes_79 : decode cX9_minutes 79 = .ok (.iload_n 3, 1) := by decide +kernel
theorem dX9_minutes_80 : decode cX9_minutes 80 = .ok (.iadd, 1) := by decide +kernel
theorem dX9_minutes_81 : decode cX9_minutes 81 = .ok (.iastore, 1) := by decide +kernel
theorem dX9_minutes_82 : decode cX9_minutes 82 = .ok (.iload_n 3, 1) := by decide +kernel
theorem dX9_minutes_83 : decode cX9_minutes 83 = .ok (.ireturn, 1) := by decide +kernel
set_option maxRecDepth 20000 in
theorem ggX9_begin_X9_within : GoodIn wsX9_begin wsX9_within := goodIn_r _ [5] (by decide +kernel) (by decide +kernel)
set_option maxRecDepth 20000 in
theorem gX9_begin_X9_within : GoodIn wsX9_begin (va_wsS RX9 37 yX9_within wsX9_within) := goodIn_app (goodIn_of _ (by decide +kernel)) ggX9_begin_X9_within
set_option maxRecDepth 20000 in
theorem ggX9_begin_X9_refused : GoodIn wsX9_begin wsX9_refused := goodIn_r _ [9, 10, 21, 22, 23, 24, 25, 26, 27] (by decide +kernel) (by decide +kernel)
set_option maxRecDepth 20000 in
theorem gX9_begin_X9_refused : GoodIn wsX9_begin (wsV RX9 33 RX9 yX9_refused wsX9_refused) := goodIn_app (goodIn_of _ (by decide +kernel)) ggX9_begin_X9_refused
set_option maxRecDepth 20000 in
theorem ggX9_begin_X9_saves : GoodIn wsX9_begin wsX9_saves := goodIn_r _ [14, 15, 16, 1, 21, 22, 23, 24, 25, 26, 27] (by decide +kernel) (by decide +kernel)
set_option maxRecDepth 20000 in
theorem gX9_begin_X9_saves : GoodIn wsX9_begin (wsV RX9 107 RX9 yX9_saves wsX9_saves) := goodIn_app (goodIn_of _ (by decide +kernel)) ggX9_begin_X9_saves
set_option maxRecDepth 20000 in
theorem ggX9_begin_X9_begins : GoodIn wsX9_begin wsX9_begins := goodIn_r _ [20, 1, 21, 22, 23, 24, 25, 26, 27] (by decide +kernel) (by decide +kernel)
set_option maxRecDepth 20000 in
theorem gX9_begin_X9_begins : GoodIn wsX9_begin (wsV RX9 22 RX9 yX9_begins wsX9_begins) := goodIn_app (goodIn_of _ (by decide +kernel)) ggX9_begin_X9_begins
theorem dX9_begin_0 : decode cX9_begin 0 = .ok (.aload_n 0, 1) := by decide +kernel
theorem dX9_begin_1 : decode cX9_begin 1 = .ok (.iload_n 1, 1) := by decide +kernel
theorem dX9_begin_2 : decode cX9_begin 2 = .ok (.iconst 1, 1) := by decide +kernel
theorem dX9_begin_3 : decode cX9_begin 3 = .ok (.iconst 4, 1) := by decide +kernel
theorem dX9_begin_4 : decode cX9_begin 4 = .ok (.invokestatic 37, 3) := by decide +kernel
theorem dX9_begin_7 : decode cX9_begin 7 = .ok (.ifCond .eq 7, 3) := by decide +kernel
theorem dX9_begin_10 : decode cX9_begin 10 = .ok (.iconst 0, 1) := by decide +kernel
theorem dX9_begin_11 : decode cX9_begin 11 = .ok (.goto 4, 3) := by decide +kernel
theorem dX9_begin_14 : decode cX9_begin 14 = .ok (.iconst 1, 1) := by decide +kernel
theorem dX9_begin_15 : decode cX9_begin 15 = .ok (.invokevirtual 33, 3) := by decide +kernel
theorem dX9_begin_18 : decode cX9_begin 18 = .ok (.ifCond .eq 5, 3) := by decide +kernel
theorem dX9_begin_21 : decode cX9_begin 21 = .ok (.iconst 0, 1) := by decide +kernel
theorem dX9_begin_22 : decode cX9_begin 22 = .ok (.ireturn, 1) := by decide +kernel
theorem dX9_begin_23 : decode cX9_begin 23 = .ok (.aload_n 0, 1) := by decide +kernel
theorem dX9_begin_24 : decode cX9_begin 24 = .ok (.getfield 7, 3) := by decide +kernel
theorem dX9_begin_27 : decode cX9_begin 27 = .ok (.bipush 6, 2) := by decide +kernel
theorem dX9_begin_29 : decode cX9_begin 29 = .ok (.iaload, 1) := by decide +kernel
theorem dX9_begin_30 : decode cX9_begin 30 = .ok (.istore_n 2, 1) := by decide +kernel
theorem dX9_begin_31 : decode cX9_begin 31 = .ok (.aload_n 0, 1) := by decide +kernel
theorem dX9_begin_32 : decode cX9_begin 32 = .ok (.invokevirtual 107, 3) := by decide +kernel
theorem dX9_begin_35 : decode cX9_begin 35 = .ok (.aload_n 0, 1) := by decide +kernel
theorem dX9_begin_36 : decode cX9_begin 36 = .ok (.iload_n 1, 1) := by decide +kernel
theorem dX9_begin_37 : decode cX9_begin 37 = .ok (.invokevirtual 22, 3) := by decide +kernel
theorem dX9_begin_40 : decode cX9_begin 40 = .ok (.iload_n 2, 1) := by decide +kernel
theorem dX9_begin_41 : decode cX9_begin 41 = .ok (.ireturn, 1) := by decide +kernel
set_option maxRecDepth 20000 in
theorem ggX9_areDoor_X9_within : GoodIn wsX9_areDoor wsX9_within := goodIn_r _ [5] (by decide +kernel) (by decide +kernel)
set_option maxRecDepth 20000 in
theorem gX9_areDoor_X9_within : GoodIn wsX9_areDoor (va_wsS RX9 37 yX9_within wsX9_within) := goodIn_app (goodIn_of _ (by decide +kernel)) ggX9_areDoor_X9_within
theorem dX9_areDoor_0 : decode cX9_areDoor 0 = .ok (.iload_n 1, 1) := by decide +kernel
theorem dX9_areDoor_1 : decode cX9_areDoor 1 = .ok (.iconst 0, 1) := by decide +kernel
theorem dX9_areDoor_2 : decode cX9_areDoor 2 = .ok (.aload_n 0, 1) := by decide +kernel
theorem dX9_areDoor_3 : decode cX9_areDoor 3 = .ok (.getfield 7, 3) := by decide +kernel
theorem dX9_areDoor_6 : decode cX9_areDoor 6 = .ok (.bipush 6, 2) := by decide +kernel
theorem dX9_areDoor_8 : decode cX9_areDoor 8 = .ok (.iaload, 1) := by decide +kernel
theorem dX9_areDoor_9 : decode cX9_areDoor 9 = .ok (.invokestatic 37, 3) := by decide +kernel
theorem dX9_areDoor_12 : decode cX9_areDoor 12 = .ok (.ifCond .eq 22, 3) := by decide +kernel
theorem dX9_areDoor_15 : decode cX9_areDoor 15 = .ok (.iload_n 2, 1) := by decide +kernel
theorem dX9_areDoor_16 : decode cX9_areDoor 16 = .ok (.iconst 0, 1) := by decide +kernel
theorem dX9_areDoor_17 : decode cX9_areDoor 17 = .ok (.aload_n 0, 1) := by decide +kernel
theorem dX9_areDoor_18 : decode cX9_areDoor 18 = .ok (.getfield 7, 3) := by decide +kernel
theorem dX9_areDoor_21 : decode cX9_areDoor 21 = .ok (.bipush 6, 2) := by decide +kernel
theorem dX9_areDoor_23 : decode cX9_areDoor 23 = .ok (.iaload, 1) := by decide +kernel
theorem dX9_areDoor_24 : decode cX9_areDoor 24 = .ok (.invokestatic 37, 3) := by decide +kernel
theorem dX9_areDoor_27 : decode cX9_areDoor 27 = .ok (.ifCond .eq 7, 3) := by decide +kernel
theorem dX9_areDoor_30 : decode cX9_areDoor 30 = .ok (.iconst 1, 1) := by decide +kernel
theorem dX9_areDoor_31 : decode cX9_areDoor 31 = .ok (.goto 4, 3) := by decide +kernel
theorem dX9_areDoor_34 : decode cX9_areDoor 34 = .ok (.iconst 0, 1) := by decide +kernel
theorem dX9_areDoor_35 : decode cX9_areDoor 35 = .ok (.ireturn, 1) := by decide +kernel
set_option maxRecDepth 20000 in
theorem ggX9_setDoor_X9_areDoor : GoodIn wsX9_setDoor wsX9_areDoor := goodIn_r _ [5, 6, 7, 8, 4, 9, 29, 30, 31, 32, 33, 34, 35] (by decide +kernel) (by decide +kernel)
set_option maxRecDepth 20000 in
theorem gX9_setDoor_X9_areDoor : GoodIn wsX9_setDoor (wsV RX9 110 RX9 yX9_areDoor wsX9_areDoor) := goodIn_app (goodIn_of _ (by decide +kernel)) ggX9_setDoor_X9_areDoor
set_option maxRecDepth 20000 in
theorem ggX9_setDoor_X9_refused : GoodIn wsX9_setDoor wsX9_refused := goodIn_r _ [13, 14, 29, 30, 31, 32, 33, 34, 35] (by decide +kernel) (by decide +kernel)
set_option maxRecDepth 20000 in
theorem gX9_setDoor_X9_refused : GoodIn wsX9_setDoor (wsV RX9 33 RX9 yX9_refused wsX9_refused) := goodIn_app (goodIn_of _ (by decide +kernel)) ggX9_setDoor_X9_refused
set_option maxRecDepth 20000 in
theorem ggX9_setDoor_X9_isDoorOpen : GoodIn wsX9_setDoor wsX9_isDoorOpen := goodIn_r _ [18, 6, 29, 30, 31, 32, 33, 34, 35] (by decide +kernel) (by decide +kernel)
set_option maxRecDepth 20000 in
theorem gX9_setDoor_X9_isDoorOpen : GoodIn wsX9_setDoor (wsV RX9 68 RX9 yX9_isDoorOpen wsX9_isDoorOpen) := goodIn_app (goodIn_of _ (by decide +kernel)) ggX9_setDoor_X9_isDoorOpen
set_option maxRecDepth 20000 in
theorem ggX9_setDoor_X9_saves : GoodIn wsX9_setDoor wsX9_saves := goodIn_r _ [22, 23, 24, 6, 29, 30, 31, 32, 33, 34, 35] (by decide +kernel) (by decide +kernel)
set_option maxRecDepth 20000 in
theorem gX9_setDoor_X9_saves : GoodIn wsX9_setDoor (wsV RX9 107 RX9 yX9_saves wsX9_saves) := goodIn_app (goodIn_of _ (by decide +kernel)) ggX9_setDoor_X9_saves
set_option maxRecDepth 20000 in
theorem ggX9_setDoor_X9_sets : GoodIn wsX9_setDoor wsX9_sets := goodIn_r _ [28, 6, 29, 30, 31, 32, 33, 34, 35] (by decide +kernel) (by decide +kernel)
set_option maxRecDepth 20000 in
theorem gX9_setDoor_X9_sets : GoodIn wsX9_setDoor (wsV RX9 72 RX9 yX9_sets wsX9_sets) := goodIn_app (goodIn_of _ (by decide +kernel)) ggX9_setDoor_X9_sets
theorem dX9_setDoor_0 : decode cX9_setDoor 0 = .ok (.aload_n 0, 1) := by decide +kernel
theorem dX9_setDoor_1 : decode cX9_setDoor 1 = .ok (.aload_n 0, 1) := by decide +kernel
theorem dX9_setDoor_2 : decode cX9_setDoor 2 = .ok (.iload_n 1, 1) := by decide +kernel
theorem dX9_setDoor_3 : decode cX9_setDoor 3 = .ok (.iload_n 2, 1) := by decide +kernel
theorem dX9_setDoor_4 : decode cX9_setDoor 4 = .ok (.invokevirtual 110, 3) := by decide +kernel
theorem dX9_setDoor_7 : decode cX9_setDoor 7 = .ok (.ifCond .ne 7, 3) := by decide +kernel
theorem dX9_setDoor_10 : decode cX9_setDoor 10 = .ok (.iconst 1, 1) := by decide +kernel
theorem dX9_setDoor_11 : decode cX9_setDoor 11 = .ok (.goto 13, 3) := by decide +kernel
theorem dX9_setDoor_14 : decode cX9_setDoor 14 = .ok (.iload_n 1, 1) := by decide +kernel
theorem dX9_setDoor_15 : decode cX9_setDoor 15 = .ok (.iload_n 2, 1) := by decide +kernel
theorem dX9_setDoor_16 : decode cX9_setDoor 16 = .ok (.if_icmp .ne 7, 3) := by decide +kernel
theorem dX9_setDoor_19 : decode cX9_setDoor 19 = .ok (.iconst 2, 1) := by decide +kernel
theorem dX9_setDoor_20 : decode cX9_setDoor 20 = .ok (.goto 4, 3) := by decide +kernel
theorem dX9_setDoor_23 : decode cX9_setDoor 23 = .ok (.iconst 0, 1) := by decide +kernel
theorem dX9_setDoor_24 : decode cX9_setDoor 24 = .ok (.invokevirtual 33, 3) := by decide +kernel
theorem dX9_setDoor_27 : decode cX9_setDoor 27 = .ok (.ifCond .eq 5, 3) := by decide +kernel
theorem dX9_setDoor_30 : decode cX9_setDoor 30 = .ok (.iconst 0, 1) := by decide +kernel
theorem dX9_setDoor_31 : decode cX9_setDoor 31 = .ok (.ireturn, 1) := by decide +kernel
theorem dX9_setDoor_32 : decode cX9_setDoor 32 = .ok (.aload_n 0, 1) := by decide +kernel
theorem dX9_setDoor_33 : decode cX9_setDoor 33 = .ok (.iload_n 1, 1) := by decide +kernel
theorem dX9_setDoor_34 : decode cX9_setDoor 34 = .ok (.iload_n 2, 1) := by decide +kernel
theorem dX9_setDoor_35 : decode cX9_setDoor 35 = .ok (.invokevirtual 68, 3) := by decide +kernel
theorem dX9_setDoor_38 : decode cX9_setDoor 38 = .ok (.istore 4, 2) := by decide +kernel
theorem dX9_setDoor_40 : decode cX9_setDoor 40 = .ok (.aload_n 0, 1) := by decide +kernel
theorem dX9_setDoor_41 : decode cX9_setDoor 41 = .ok (.invokevirtual 107, 3) := by decide +kernel
theorem dX9_setDoor_44 : decode cX9_setDoor 44 = .ok (.aload_n 0, 1) := by decide +kernel
theorem dX9_setDoor_45 : decode cX9_setDoor 45 = .ok (.iload_n 1, 1) := by decide +kernel
theorem dX9_setDoor_46 : decode cX9_setDoor 46 = .ok (.iload_n 2, 1) := by decide +kernel
theorem dX9_setDoor_47 : decode cX9_setDoor 47 = .ok (.iload_n 3, 1) := by decide +kernel
theorem dX9_setDoor_48 : decode cX9_setDoor 48 = .ok (.ifCond .eq 7, 3) := by decide +kernel
theorem dX9_setDoor_51 : decode cX9_setDoor 51 = .ok (.iconst 1, 1) := by decide +kernel
theorem dX9_setDoor_52 : decode cX9_setDoor 52 = .ok (.goto 4, 3) := by decide +kernel
theorem dX9_setDoor_55 : decode cX9_setDoor 55 = .ok (.iconst 0, 1) := by decide +kernel
theorem dX9_setDoor_56 : decode cX9_setDoor 56 = .ok (.invokevirtual 72, 3) := by decide +kernel
theorem dX9_setDoor_59 : decode cX9_setDoor 59 = .ok (.iload 4, 2) := by decide +kernel
theorem dX9_setDoor_61 : decode cX9_setDoor 61 = .ok (.ireturn, 1) := by decide +kernel
set_option maxRecDepth 20000 in
theorem ggX9_isOpen_X9_areDoor : GoodIn wsX9_isOpen wsX9_areDoor := goodIn_r _ [5, 6, 7, 8, 4, 9, 19, 20, 21, 22, 23, 24, 25] (by decide +kernel) (by decide +kernel)
set_option maxRecDepth 20000 in
theorem gX9_isOpen_X9_areDoor : GoodIn wsX9_isOpen (wsV RX9 110 RX9 yX9_areDoor wsX9_areDoor) := goodIn_app (goodIn_of _ (by decide +kernel)) ggX9_isOpen_X9_areDoor
set_option maxRecDepth 20000 in
theorem ggX9_isOpen_X9_refused : GoodIn wsX9_isOpen wsX9_refused := goodIn_r _ [13, 14, 19, 20, 21, 22, 23, 24, 25] (by decide +kernel) (by decide +kernel)
set_option maxRecDepth 20000 in
theorem gX9_isOpen_X9_refused : GoodIn wsX9_isOpen (wsV RX9 33 RX9 yX9_refused wsX9_refused) := goodIn_app (goodIn_of _ (by decide +kernel)) ggX9_isOpen_X9_refused
set_option maxRecDepth 20000 in
theorem ggX9_isOpen_X9_isDoorOpen : GoodIn wsX9_isOpen wsX9_isDoorOpen := goodIn_r _ [18, 6, 19, 20, 21, 22, 23, 24, 25] (by decide +kernel) (by decide +kernel)
set_option maxRecDepth 20000 in
theorem gX9_isOpen_X9_isDoorOpen : GoodIn wsX9_isOpen (wsV RX9 68 RX9 yX9_isDoorOpen wsX9_isDoorOpen) := goodIn_app (goodIn_of _ (by decide +kernel)) ggX9_isOpen_X9_isDoorOpen
theorem dX9_isOpen_0 : decode cX9_isOpen 0 = .ok (.aload_n 0, 1) := by decide +kernel
theorem dX9_isOpen_1 : decode cX9_isOpen 1 = .ok (.aload_n 0, 1) := by decide +kernel
theorem dX9_isOpen_2 : decode cX9_isOpen 2 = .ok (.iload_n 1, 1) := by decide +kernel
theorem dX9_isOpen_3 : decode cX9_isOpen 3 = .ok (.iload_n 2, 1) := by decide +kernel
theorem dX9_isOpen_4 : decode cX9_isOpen 4 = .ok (.invokevirtual 110, 3) := by decide +kernel
theorem dX9_isOpen_7 : decode cX9_isOpen 7 = .ok (.ifCond .eq 7, 3) := by decide +kernel
theorem dX9_isOpen_10 : decode cX9_isOpen 10 = .ok (.iconst 0, 1) := by decide +kernel
theorem dX9_isOpen_11 : decode cX9_isOpen 11 = .ok (.goto 4, 3) := by decide +kernel
theorem dX9_isOpen_14 : decode cX9_isOpen 14 = .ok (.iconst 1, 1) := by decide +kernel
theorem dX9_isOpen_15 : decode cX9_isOpen 15 = .ok (.invokevirtual 33, 3) := by decide +kernel
theorem dX9_isOpen_18 : decode cX9_isOpen 18 = .ok (.ifCond .ne 21, 3) := by decide +kernel
theorem dX9_isOpen_21 : decode cX9_isOpen 21 = .ok (.iload_n 1, 1) := by decide +kernel
theorem dX9_isOpen_22 : decode cX9_isOpen 22 = .ok (.iload_n 2, 1) := by decide +kernel
theorem dX9_isOpen_23 : decode cX9_isOpen 23 = .ok (.if_icmp .eq 16, 3) := by decide +kernel
theorem dX9_isOpen_26 : decode cX9_isOpen 26 = .ok (.aload_n 0, 1) := by decide +kernel
theorem dX9_isOpen_27 : decode cX9_isOpen 27 = .ok (.iload_n 1, 1) := by decide +kernel
theorem dX9_isOpen_28 : decode cX9_isOpen 28 = .ok (.iload_n 2, 1) := by decide +kernel
theorem dX9_isOpen_29 : decode cX9_isOpen 29 = .ok (.invokevirtual 68, 3) := by decide +kernel
theorem dX9_isOpen_32 : decode cX9_isOpen 32 = .ok (.ifCond .eq 7, 3) := by decide +kernel
theorem dX9_isOpen_35 : decode cX9_isOpen 35 = .ok (.iconst 1, 1) := by decide +kernel
theorem dX9_isOpen_36 : decode cX9_isOpen 36 = .ok (.goto 4, 3) := by decide +kernel
theorem dX9_isOpen_39 : decode cX9_isOpen 39 = .ok (.iconst 0, 1) := by decide +kernel
theorem dX9_isOpen_40 : decode cX9_isOpen 40 = .ok (.ireturn, 1) := by decide +kernel
set_option maxRecDepth 20000 in
theorem ggX9_addFuel_X9_within : GoodIn wsX9_addFuel wsX9_within := goodIn_r _ [5] (by decide +kernel) (by decide +kernel)
set_option maxRecDepth 20000 in
theorem gX9_addFuel_X9_within : GoodIn wsX9_addFuel (va_wsS RX9 37 yX9_within wsX9_within) := goodIn_app (goodIn_of _ (by decide +kernel)) ggX9_addFuel_X9_within
set_option maxRecDepth 20000 in
theorem ggX9_addFuel_X9_refused : GoodIn wsX9_addFuel wsX9_refused := goodIn_r _ [9, 10, 20, 21, 22, 23, 24, 25, 26] (by decide +kernel) (by decide +kernel)
set_option maxRecDepth 20000 in
theorem gX9_addFuel_X9_refused : GoodIn wsX9_addFuel (wsV RX9 33 RX9 yX9_refused wsX9_refused) := goodIn_app (goodIn_of _ (by decide +kernel)) ggX9_addFuel_X9_refused
set_option maxRecDepth 20000 in
theorem ggX9_addFuel_X9_saves : GoodIn wsX9_addFuel wsX9_saves := goodIn_r _ [14, 15, 16, 1, 20, 21, 22, 23, 24, 25, 26] (by decide +kernel) (by decide +kernel)
set_option maxRecDepth 20000 in
theorem gX9_addFuel_X9_saves : GoodIn wsX9_addFuel (wsV RX9 107 RX9 yX9_saves wsX9_saves) := goodIn_app (goodIn_of _ (by decide +kernel)) ggX9_addFuel_X9_saves
set_option maxRecDepth 20000 in
theorem ggX9_addFuel_X9_lesser : GoodIn wsX9_addFuel wsX9_lesser := goodIn_r _ [19] (by decide +kernel) (by decide +kernel)
set_option maxRecDepth 20000 in
theorem gX9_addFuel_X9_lesser : GoodIn wsX9_addFuel (va_wsS RX9 76 yX9_lesser wsX9_lesser) := goodIn_app (goodIn_of _ (by decide +kernel)) ggX9_addFuel_X9_lesser
theorem dX9_addFuel_0 : decode cX9_addFuel 0 = .ok (.aload_n 0, 1) := by decide +kernel
theorem dX9_addFuel_1 : decode cX9_addFuel 1 = .ok (.iload_n 1, 1) := by decide +kernel
theorem dX9_addFuel_2 : decode cX9_addFuel 2 = .ok (.iconst 1, 1) := by decide +kernel
theorem dX9_addFuel_3 : decode cX9_addFuel 3 = .ok (.sipush 200, 3) := by decide +kernel
theorem dX9_addFuel_6 : decode cX9_addFuel 6 = .ok (.invokestatic 37, 3) := by decide +kernel
theorem dX9_addFuel_9 : decode cX9_addFuel 9 = .ok (.ifCond .eq 7, 3) := by decide +kernel
theorem dX9_addFuel_12 : decode cX9_addFuel 12 = .ok (.iconst 0, 1) := by decide +kernel
theorem dX9_addFuel_13 : decode cX9_addFuel 13 = .ok (.goto 4, 3) := by decide +kernel
theorem dX9_addFuel_16 : decode cX9_addFuel 16 = .ok (.iconst 1, 1) := by decide +kernel
theorem dX9_addFuel_17 : decode cX9_addFuel 17 = .ok (.invokevirtual 33, 3) := by decide +kernel
theorem dX9_addFuel_20 : decode cX9_addFuel 20 = .ok (.ifCond .eq 5, 3) := by decide +kernel
theorem dX9_addFuel_23 : decode cX9_addFuel 23 = .ok (.iconst 0, 1) := by decide +kernel
theorem dX9_addFuel_24 : decode cX9_addFuel 24 = .ok (.ireturn, 1) := by decide +kernel
theorem dX9_addFuel_25 : decode cX9_addFuel 25 = .ok (.aload_n 0, 1) := by decide +kernel
theorem dX9_addFuel_26 : decode cX9_addFuel 26 = .ok (.invokevirtual 107, 3) := by decide +kernel
theorem dX9_addFuel_29 : decode cX9_addFuel 29 = .ok (.aload_n 0, 1) := by decide +kernel
theorem dX9_addFuel_30 : decode cX9_addFuel 30 = .ok (.getfield 7, 3) := by decide +kernel
theorem dX9_addFuel_33 : decode cX9_addFuel 33 = .ok (.bipush 8, 2) := by decide +kernel
theorem dX9_addFuel_35 : decode cX9_addFuel 35 = .ok (.sipush 200, 3) := by decide +kernel
theorem dX9_addFuel_38 : decode cX9_addFuel 38 = .ok (.aload_n 0, 1) := by decide +kernel
theorem dX9_addFuel_39 : decode cX9_addFuel 39 = .ok (.getfield 7, 3) := by decide +kernel
theorem dX9_addFuel_42 : decode cX9_addFuel 42 = .ok (.bipush 8, 2) := by decide +kernel
theorem dX9_addFuel_44 : decode cX9_addFuel 44 = .ok (.iaload, 1) := by decide +kernel
theorem dX9_addFuel_45 : decode cX9_addFuel 45 = .ok (.iload_n 1, 1) := by decide +kernel
theorem dX9_addFuel_46 : decode cX9_addFuel 46 = .ok (.iadd, 1) := by decide +kernel
theorem dX9_addFuel_47 : decode cX9_addFuel 47 = .ok (.invokestatic 76, 3) := by decide +kernel
theorem dX9_addFuel_50 : decode cX9_addFuel 50 = .ok (.iastore, 1) := by decide +kernel
theorem dX9_addFuel_51 : decode cX9_addFuel 51 = .ok (.aload_n 0, 1) := by decide +kernel
theorem dX9_addFuel_52 : decode cX9_addFuel 52 = .ok (.getfield 7, 3) := by decide +kernel
theorem dX9_addFuel_55 : decode cX9_addFuel 55 = .ok (.bipush 8, 2) := by decide +kernel
theorem dX9_addFuel_57 : decode cX9_addFuel 57 = .ok (.iaload, 1) := by decide +kernel
theorem dX9_addFuel_58 : decode cX9_addFuel 58 = .ok (.ireturn, 1) := by decide +kernel
set_option maxRecDepth 20000 in
theorem ggX9_puts_X9_saves : GoodIn wsX9_puts wsX9_saves := goodIn_r _ [6, 7, 8, 1, 9, 10, 11, 12, 13, 14, 15] (by decide +kernel) (by decide +kernel)
set_option maxRecDepth 20000 in
theorem gX9_puts_X9_saves : GoodIn wsX9_puts (wsV RX9 107 RX9 yX9_saves wsX9_saves) := goodIn_app (goodIn_of _ (by decide +kernel)) ggX9_puts_X9_saves
theorem dX9_puts_0 : decode cX9_puts 0 = .ok (.aload_n 0, 1) := by decide +kernel
theorem dX9_puts_1 : decode cX9_puts 1 = .ok (.getfield 7, 3) := by decide +kernel
theorem dX9_puts_4 : decode cX9_puts 4 = .ok (.iload_n 1, 1) := by decide +kernel
theorem dX9_puts_5 : decode cX9_puts 5 = .ok (.iaload, 1) := by decide +kernel
theorem dX9_puts_6 : decode cX9_puts 6 = .ok (.istore_n 3, 1) := by decide +kernel
theorem dX9_puts_7 : decode cX9_puts 7 = .ok (.aload_n 0, 1) := by decide +kernel
theorem dX9_puts_8 : decode cX9_puts 8 = .ok (.invokevirtual 107, 3) := by decide +kernel
theorem dX9_puts_11 : decode cX9_puts 11 = .ok (.aload_n 0, 1) := by decide +kernel
theorem dX9_puts_12 : decode cX9_puts 12 = .ok (.getfield 7, 3) := by decide +kernel
theorem dX9_puts_15 : decode cX9_puts 15 = .ok (.iload_n 1, 1) := by decide +kernel
theorem dX9_puts_16 : decode cX9_puts 16 = .ok (.iload_n 2, 1) := by decide +kernel
theorem dX9_puts_17 : decode cX9_puts 17 = .ok (.iastore, 1) := by decide +kernel
theorem dX9_puts_18 : decode cX9_puts 18 = .ok (.iload_n 3, 1) := by decide +kernel
theorem dX9_puts_19 : decode cX9_puts 19 = .ok (.ireturn, 1) := by decide +kernel
set_option maxRecDepth 20000 in
theorem ggX9_setTarget_X9_within : GoodIn wsX9_setTarget wsX9_within := goodIn_r _ [4] (by decide +kernel) (by decide +kernel)
set_option maxRecDepth 20000 in
theorem gX9_setTarget_X9_within : GoodIn wsX9_setTarget (va_wsS RX9 37 yX9_within wsX9_within) := goodIn_app (goodIn_of _ (by decide +kernel)) ggX9_setTarget_X9_within
set_option maxRecDepth 20000 in
theorem ggX9_setTarget_X9_refused : GoodIn wsX9_setTarget wsX9_refused := goodIn_r _ [8, 9, 21, 22, 23, 24, 25, 26, 27] (by decide +kernel) (by decide +kernel)
set_option maxRecDepth 20000 in
theorem gX9_setTarget_X9_refused : GoodIn wsX9_setTarget (wsV RX9 33 RX9 yX9_refused wsX9_refused) := goodIn_app (goodIn_of _ (by decide +kernel)) ggX9_setTarget_X9_refused
set_option maxRecDepth 20000 in
theorem ggX9_setTarget_X9_puts : GoodIn wsX9_setTarget wsX9_puts := goodIn_r _ [13, 14, 15, 16, 17, 3, 18, 19, 20, 21, 22, 23, 24, 25, 26, 27] (by decide +kernel) (by decide +kernel)
set_option maxRecDepth 20000 in
theorem gX9_setTarget_X9_puts : GoodIn wsX9_setTarget (wsV RX9 113 RX9 yX9_puts wsX9_puts) := goodIn_app (goodIn_of _ (by decide +kernel)) ggX9_setTarget_X9_puts
theorem dX9_setTarget_0 : decode cX9_setTarget 0 = .ok (.aload_n 0, 1) := by decide +kernel
theorem dX9_setTarget_1 : decode cX9_setTarget 1 = .ok (.iload_n 1, 1) := by decide +kernel
theorem dX9_setTarget_2 : decode cX9_setTarget 2 = .ok (.iconst 0, 1) := by decide +kernel
theorem dX9_setTarget_3 : decode cX9_setTarget 3 = .ok (.bipush 8, 2) := by decide +kernel
theorem dX9_setTarget_5 : decode cX9_setTarget 5 = .ok (.invokestatic 37, 3) := by decide +kernel
theorem dX9_setTarget_8 : decode cX9_setTarget 8 = .ok (.ifCond .eq 7, 3) := by decide +kernel
theorem dX9_setTarget_11 : decode cX9_setTarget 11 = .ok (.iconst 0, 1) := by decide +kernel
theorem dX9_setTarget_12 : decode cX9_setTarget 12 = .ok (.goto 4, 3) := by decide +kernel
theorem dX9_setTarget_15 : decode cX9_setTarget 15 = .ok (.iconst 1, 1) := by decide +kernel
theorem dX9_setTarget_16 : decode cX9_setTarget 16 = .ok (.invokevirtual 33, 3) := by decide +kernel
theorem dX9_setTarget_19 : decode cX9_setTarget 19 = .ok (.ifCond .eq 7, 3) := by decide +kernel
theorem dX9_setTarget_22 : decode cX9_setTarget 22 = .ok (.iconst 0, 1) := by decide +kernel
theorem dX9_setTarget_23 : decode cX9_setTarget 23 = .ok (.goto 10, 3) := by decide +kernel
theorem dX9_setTarget_26 : decode cX9_setTarget 26 = .ok (.aload_n 0, 1) := by decide +kernel
theorem dX9_setTarget_27 : decode cX9_setTarget 27 = .ok (.bipush 9, 2) := by decide +kernel
theorem dX9_setTarget_29 : decode cX9_setTarget 29 = .ok (.iload_n 1, 1) := by decide +kernel
theorem dX9_setTarget_30 : decode cX9_setTarget 30 = .ok (.invokevirtual 113, 3) := by decide +kernel
theorem dX9_setTarget_33 : decode cX9_setTarget 33 = .ok (.ireturn, 1) := by decide +kernel
set_option maxRecDepth 20000 in
theorem ggX9_canBe_X9_within : GoodIn wsX9_canBe wsX9_within := goodIn_r _ [4] (by decide +kernel) (by decide +kernel)
set_option maxRecDepth 20000 in
theorem gX9_canBe_X9_within : GoodIn wsX9_canBe (va_wsS RX9 37 yX9_within wsX9_within) := goodIn_app (goodIn_of _ (by decide +kernel)) ggX9_canBe_X9_within
theorem dX9_canBe_0 : decode cX9_canBe 0 = .ok (.iload_n 0, 1) := by decide +kernel
theorem dX9_canBe_1 : decode cX9_canBe 1 = .ok (.tableswitch 87 0 5 #[39, 47, 55, 63, 70, 78], 39) := by decide +kernel
theorem dX9_canBe_40 : decode cX9_canBe 40 = .ok (.iload_n 1, 1) := by decide +kernel
theorem dX9_canBe_41 : decode cX9_canBe 41 = .ok (.iconst 0, 1) := by decide +kernel
theorem dX9_canBe_42 : decode cX9_canBe 42 = .ok (.bipush 60, 2) := by decide +kernel
theorem dX9_canBe_44 : decode cX9_canBe 44 = .ok (.invokestatic 37, 3) := by decide +kernel
theorem dX9_canBe_47 : decode cX9_canBe 47 = .ok (.ireturn, 1) := by decide +kernel
theorem dX9_canBe_48 : decode cX9_canBe 48 = .ok (.iload_n 1, 1) := by decide +kernel
theorem dX9_canBe_49 : decode cX9_canBe 49 = .ok (.iconst 2, 1) := by decide +kernel
theorem dX9_canBe_50 : decode cX9_canBe 50 = .ok (.bipush 9, 2) := by decide +kernel
theorem dX9_canBe_52 : decode cX9_canBe 52 = .ok (.invokestatic 37, 3) := by decide +kernel
theorem dX9_canBe_55 : decode cX9_canBe 55 = .ok (.ireturn, 1) := by decide +kernel
theorem dX9_canBe_56 : decode cX9_canBe 56 = .ok (.iload_n 1, 1) := by decide +kernel
theorem dX9_canBe_57 : decode cX9_canBe 57 = .ok (.iconst 0, 1) := by decide +kernel
theorem dX9_canBe_58 : decode cX9_canBe 58 = .ok (.bipush 30, 2) := by decide +kernel
theorem dX9_canBe_60 : decode cX9_canBe 60 = .ok (.invokestatic 37, 3) := by decide +kernel
theorem dX9_canBe_63 : decode cX9_canBe 63 = .ok (.ireturn, 1) := by decide +kernel
theorem dX9_canBe_64 : decode cX9_canBe 64 = .ok (.iload_n 1, 1) := by decide +kernel
theorem dX9_canBe_65 : decode cX9_canBe 65 = .ok (.iconst 0, 1) := by decide +kernel
theorem dX9_canBe_66 : decode cX9_canBe 66 = .ok (.iconst 1, 1) := by decide +kernel
theorem dX9_canBe_67 : decode cX9_canBe 67 = .ok (.invokestatic 37, 3) := by decide +kernel
theorem dX9_canBe_70 : decode cX9_canBe 70 = .ok (.ireturn, 1) := by decide +kernel
theorem dX9_canBe_71 : decode cX9_canBe 71 = .ok (.iload_n 1, 1) := by decide +kernel
theorem dX9_canBe_72 : decode cX9_canBe 72 = .ok (.iconst 0, 1) := by decide +kernel
theorem dX9_canBe_73 : decode cX9_canBe 73 = .ok (.bipush 8, 2) := by decide +kernel
theorem dX9_canBe_75 : decode cX9_canBe 75 = .ok (.invokestatic 37, 3) := by decide +kernel
theorem dX9_canBe_78 : decode cX9_canBe 78 = .ok (.ireturn, 1) := by decide +kernel
theorem dX9_canBe_79 : decode cX9_canBe 79 = .ok (.iload_n 1, 1) := by decide +kernel
theorem dX9_canBe_80 : decode cX9_canBe 80 = .ok (.iconst 0, 1) := by decide +kernel
theorem dX9_canBe_81 : decode cX9_canBe 81 = .ok (.sipush 999, 3) := by decide +kernel
theorem dX9_canBe_84 : decode cX9_canBe 84 = .ok (.invokestatic 37, 3) := by decide +kernel
theorem dX9_canBe_87 : decode cX9_canBe 87 = .ok (.ireturn, 1) := by decide +kernel
theorem dX9_canBe_88 : decode cX9_canBe 88 = .ok (.iconst 0, 1) := by decide +kernel
theorem dX9_canBe_89 : decode cX9_canBe 89 = .ok (.ireturn, 1) := by decide +kernel
set_option maxRecDepth 20000 in
theorem ggX9_set_X9_canBe : GoodIn wsX9_set wsX9_canBe := goodIn_r _ [4, 5, 6, 3, 7] (by decide +kernel) (by decide +kernel)
set_option maxRecDepth 20000 in
theorem gX9_set_X9_canBe : GoodIn wsX9_set (va_wsS RX9 116 yX9_canBe wsX9_canBe) := goodIn_app (goodIn_of _ (by decide +kernel)) ggX9_set_X9_canBe
set_option maxRecDepth 20000 in
theorem ggX9_set_X9_refused : GoodIn wsX9_set wsX9_refused := goodIn_r _ [11, 12, 24, 25, 26, 27, 28, 29, 30] (by decide +kernel) (by decide +kernel)
set_option maxRecDepth 20000 in
theorem gX9_set_X9_refused : GoodIn wsX9_set (wsV RX9 33 RX9 yX9_refused wsX9_refused) := goodIn_app (goodIn_of _ (by decide +kernel)) ggX9_set_X9_refused
set_option maxRecDepth 20000 in
theorem ggX9_set_X9_puts : GoodIn wsX9_set wsX9_puts := goodIn_r _ [16, 17, 18, 19, 20, 3, 21, 22, 23, 24, 25, 26, 27, 28, 29, 30] (by decide +kernel) (by decide +kernel)
set_option maxRecDepth 20000 in
theorem gX9_set_X9_puts : GoodIn wsX9_set (wsV RX9 113 RX9 yX9_puts wsX9_puts) := goodIn_app (goodIn_of _ (by decide +kernel)) ggX9_set_X9_puts
theorem dX9_set_0 : decode cX9_set 0 = .ok (.aload_n 0, 1) := by decide +kernel
theorem dX9_set_1 : decode cX9_set 1 = .ok (.iload_n 1, 1) := by decide +kernel
theorem dX9_set_2 : decode cX9_set 2 = .ok (.iload_n 2, 1) := by decide +kernel
theorem dX9_set_3 : decode cX9_set 3 = .ok (.invokestatic 116, 3) := by decide +kernel
theorem dX9_set_6 : decode cX9_set 6 = .ok (.ifCond .eq 7, 3) := by decide +kernel
theorem dX9_set_9 : decode cX9_set 9 = .ok (.iconst 0, 1) := by decide +kernel
theorem dX9_set_10 : decode cX9_set 10 = .ok (.goto 4, 3) := by decide +kernel
theorem dX9_set_13 : decode cX9_set 13 = .ok (.iconst 1, 1) := by decide +kernel
theorem dX9_set_14 : decode cX9_set 14 = .ok (.invokevirtual 33, 3) := by decide +kernel
theorem dX9_set_17 : decode cX9_set 17 = .ok (.ifCond .eq 7, 3) := by decide +kernel
theorem dX9_set_20 : decode cX9_set 20 = .ok (.iconst 0, 1) := by decide +kernel
theorem dX9_set_21 : decode cX9_set 21 = .ok (.goto 9, 3) := by decide +kernel
theorem dX9_set_24 : decode cX9_set 24 = .ok (.aload_n 0, 1) := by decide +kernel
theorem dX9_set_25 : decode cX9_set 25 = .ok (.iload_n 1, 1) := by decide +kernel
theorem dX9_set_26 : decode cX9_set 26 = .ok (.iload_n 2, 1) := by decide +kernel
theorem dX9_set_27 : decode cX9_set 27 = .ok (.invokevirtual 113, 3) := by decide +kernel
theorem dX9_set_30 : decode cX9_set 30 = .ok (.ireturn, 1) := by decide +kernel
set_option maxRecDepth 20000 in
theorem ggX9_setSmoke_X9_isRoom : GoodIn wsX9_setSmoke wsX9_isRoom := goodIn_r _ [6, 7, 8, 9, 5, 10, 26, 27, 28, 29, 30, 31, 32] (by decide +kernel) (by decide +kernel)
set_option maxRecDepth 20000 in
theorem gX9_setSmoke_X9_isRoom : GoodIn wsX9_setSmoke (wsV RX9 119 RX9 yX9_isRoom wsX9_isRoom) := goodIn_app (goodIn_of _ (by decide +kernel)) ggX9_setSmoke_X9_isRoom
set_option maxRecDepth 20000 in
theorem ggX9_setSmoke_X9_within : GoodIn wsX9_setSmoke wsX9_within := goodIn_r _ [10] (by decide +kernel) (by decide +kernel)
set_option maxRecDepth 20000 in
theorem gX9_setSmoke_X9_within : GoodIn wsX9_setSmoke (va_wsS RX9 37 yX9_within wsX9_within) := goodIn_app (goodIn_of _ (by decide +kernel)) ggX9_setSmoke_X9_within
set_option maxRecDepth 20000 in
theorem ggX9_setSmoke_X9_refused : GoodIn wsX9_setSmoke wsX9_refused := goodIn_r _ [14, 15, 26, 27, 28, 29, 30, 31, 32] (by decide +kernel) (by decide +kernel)
set_option maxRecDepth 20000 in
theorem gX9_setSmoke_X9_refused : GoodIn wsX9_setSmoke (wsV RX9 33 RX9 yX9_refused wsX9_refused) := goodIn_app (goodIn_of _ (by decide +kernel)) ggX9_setSmoke_X9_refused
set_option maxRecDepth 20000 in
theorem ggX9_setSmoke_X9_puts : GoodIn wsX9_setSmoke wsX9_puts := goodIn_r _ [19, 7, 20, 21, 22, 5, 23, 24, 25, 26, 27, 28, 29, 30, 31, 32] (by decide +kernel) (by decide +kernel)
set_option maxRecDepth 20000 in
theorem gX9_setSmoke_X9_puts : GoodIn wsX9_setSmoke (wsV RX9 113 RX9 yX9_puts wsX9_puts) := goodIn_app (goodIn_of _ (by decide +kernel)) ggX9_setSmoke_X9_puts
theorem dX9_setSmoke_0 : decode cX9_setSmoke 0 = .ok (.aload_n 0, 1) := by decide +kernel
theorem dX9_setSmoke_1 : decode cX9_setSmoke 1 = .ok (.aload_n 0, 1) := by decide +kernel
theorem dX9_setSmoke_2 : decode cX9_setSmoke 2 = .ok (.iload_n 1, 1) := by decide +kernel
theorem dX9_setSmoke_3 : decode cX9_setSmoke 3 = .ok (.invokevirtual 119, 3) := by decide +kernel
theorem dX9_setSmoke_6 : decode cX9_setSmoke 6 = .ok (.ifCond .ne 7, 3) := by decide +kernel
theorem dX9_setSmoke_9 : decode cX9_setSmoke 9 = .ok (.iconst 1, 1) := by decide +kernel
theorem dX9_setSmoke_10 : decode cX9_setSmoke 10 = .ok (.goto 18, 3) := by decide +kernel
theorem dX9_setSmoke_13 : decode cX9_setSmoke 13 = .ok (.iload_n 2, 1) := by decide +kernel
theorem dX9_setSmoke_14 : decode cX9_setSmoke 14 = .ok (.iconst 0, 1) := by decide +kernel
theorem dX9_setSmoke_15 : decode cX9_setSmoke 15 = .ok (.ldc 79, 2) := by decide +kernel
theorem dX9_setSmoke_17 : decode cX9_setSmoke 17 = .ok (.invokestatic 37, 3) := by decide +kernel
theorem dX9_setSmoke_20 : decode cX9_setSmoke 20 = .ok (.ifCond .ne 7, 3) := by decide +kernel
theorem dX9_setSmoke_23 : decode cX9_setSmoke 23 = .ok (.iconst 2, 1) := by decide +kernel
theorem dX9_setSmoke_24 : decode cX9_setSmoke 24 = .ok (.goto 4, 3) := by decide +kernel
theorem dX9_setSmoke_27 : decode cX9_setSmoke 27 = .ok (.iconst 0, 1) := by decide +kernel
theorem dX9_setSmoke_28 : decode cX9_setSmoke 28 = .ok (.invokevirtual 33, 3) := by decide +kernel
theorem dX9_setSmoke_31 : decode cX9_setSmoke 31 = .ok (.ifCond .eq 7, 3) := by decide +kernel
theorem dX9_setSmoke_34 : decode cX9_setSmoke 34 = .ok (.iconst 0, 1) := by decide +kernel
theorem dX9_setSmoke_35 : decode cX9_setSmoke 35 = .ok (.goto 12, 3) := by decide +kernel
theorem dX9_setSmoke_38 : decode cX9_setSmoke 38 = .ok (.aload_n 0, 1) := by decide +kernel
theorem dX9_setSmoke_39 : decode cX9_setSmoke 39 = .ok (.bipush 20, 2) := by decide +kernel
theorem dX9_setSmoke_41 : decode cX9_setSmoke 41 = .ok (.iload_n 1, 1) := by decide +kernel
theorem dX9_setSmoke_42 : decode cX9_setSmoke 42 = .ok (.iadd, 1) := by decide +kernel
theorem dX9_setSmoke_43 : decode cX9_setSmoke 43 = .ok (.iload_n 2, 1) := by decide +kernel
theorem dX9_setSmoke_44 : decode cX9_setSmoke 44 = .ok (.invokevirtual 113, 3) := by decide +kernel
theorem dX9_setSmoke_47 : decode cX9_setSmoke 47 = .ok (.ireturn, 1) := by decide +kernel
set_option maxRecDepth 20000 in
theorem ggX9_number_X9_strength : GoodIn wsX9_number wsX9_strength := goodIn_r _ [6, 1, 11, 12, 13, 14, 15, 16, 17] (by decide +kernel) (by decide +kernel)
set_option maxRecDepth 20000 in
theorem gX9_number_X9_strength : GoodIn wsX9_number (wsV RX9 49 RX9 yX9_strength wsX9_strength) := goodIn_app (goodIn_of _ (by decide +kernel)) ggX9_number_X9_strength
set_option maxRecDepth 20000 in
theorem ggX9_number_X9_draft : GoodIn wsX9_number wsX9_draft := goodIn_r _ [10, 1, 11, 12, 13, 14, 15, 16, 17] (by decide +kernel) (by decide +kernel)
set_option maxRecDepth 20000 in
theorem gX9_number_X9_draft : GoodIn wsX9_number (wsV RX9 45 RX9 yX9_draft wsX9_draft) := goodIn_app (goodIn_of _ (by decide +kernel)) ggX9_number_X9_draft
theorem dX9_number_0 : decode cX9_number 0 = .ok (.iload_n 1, 1) := by decide +kernel
theorem dX9_number_1 : decode cX9_number 1 = .ok (.tableswitch 81 9 14 #[39, 44, 52, 57, 65, 73], 39) := by decide +kernel
theorem dX9_number_40 : decode cX9_number 40 = .ok (.aload_n 0, 1) := by decide +kernel
theorem dX9_number_41 : decode cX9_number 41 = .ok (.invokevirtual 49, 3) := by decide +kernel
theorem dX9_number_44 : decode cX9_number 44 = .ok (.ireturn, 1) := by decide +kernel
theorem dX9_number_45 : decode cX9_number 45 = .ok (.aload_n 0, 1) := by decide +kernel
theorem dX9_number_46 : decode cX9_number 46 = .ok (.getfield 7, 3) := by decide +kernel
theorem dX9_number_49 : decode cX9_number 49 = .ok (.bipush 9, 2) := by decide +kernel
theorem dX9_number_51 : decode cX9_number 51 = .ok (.iaload, 1) := by decide +kernel
theorem dX9_number_52 : decode cX9_number 52 = .ok (.ireturn, 1) := by decide +kernel
theorem dX9_number_53 : decode cX9_number 53 = .ok (.aload_n 0, 1) := by decide +kernel
theorem dX9_number_54 : decode cX9_number 54 = .ok (.invokevirtual 45, 3) := by decide +kernel
theorem dX9_number_57 : decode cX9_number 57 = .ok (.ireturn, 1) := by decide +kernel
theorem dX9_number_58 : decode cX9_number 58 = .ok (.aload_n 0, 1) := by decide +kernel
theorem dX9_number_59 : decode cX9_number 59 = .ok (.getfield 7, 3) := by decide +kernel
theorem dX9_number_62 : decode cX9_number 62 = .ok (.bipush 10, 2) := by decide +kernel
theorem dX9_number_64 : decode cX9_number 64 = .ok (.iaload, 1) := by decide +kernel
theorem dX9_number_65 : decode cX9_number 65 = .ok (.ireturn, 1) := by decide +kernel
theorem dX9_number_66 : decode cX9_number 66 = .ok (.aload_n 0, 1) := by decide +kernel
theorem dX9_number_67 : decode cX9_number 67 = .ok (.getfield 7, 3) := by decide +kernel
theorem dX9_number_70 : decode cX9_number 70 = .ok (.bipush 11, 2) := by decide +kernel
theorem dX9_number_72 : decode cX9_number 72 = .ok (.iaload, 1) := by decide +kernel
theorem dX9_number_73 : decode cX9_number 73 = .ok (.ireturn, 1) := by decide +kernel
theorem dX9_number_74 : decode cX9_number 74 = .ok (.aload_n 0, 1) := by decide +kernel
theorem dX9_number_75 : decode cX9_number 75 = .ok (.getfield 7, 3) := by decide +kernel
theorem dX9_number_78 : decode cX9_number 78 = .ok (.bipush 12, 2) := by decide +kernel
theorem dX9_number_80 : decode cX9_number 80 = .ok (.iaload, 1) := by decide +kernel
theorem dX9_number_81 : decode cX9_number 81 = .ok (.ireturn, 1) := by decide +kernel
theorem dX9_number_82 : decode cX9_number 82 = .ok (.aload_n 0, 1) := by decide +kernel
theorem dX9_number_83 : decode cX9_number 83 = .ok (.getfield 7, 3) := by decide +kernel
theorem dX9_number_86 : decode cX9_number 86 = .ok (.iload_n 1, 1) := by decide +kernel
theorem dX9_number_87 : decode cX9_number 87 = .ok (.iaload, 1) := by decide +kernel
theorem dX9_number_88 : decode cX9_number 88 = .ok (.ireturn, 1) := by decide +kernel
set_option maxRecDepth 20000 in
theorem ggX9_info_X9_within : GoodIn wsX9_info wsX9_within := goodIn_r _ [4] (by decide +kernel) (by decide +kernel)
set_option maxRecDepth 20000 in
theorem gX9_info_X9_within : GoodIn wsX9_info (va_wsS RX9 37 yX9_within wsX9_within) := goodIn_app (goodIn_of _ (by decide +kernel)) ggX9_info_X9_within
set_option maxRecDepth 20000 in
theorem ggX9_info_X9_refused : GoodIn wsX9_info wsX9_refused := goodIn_r _ [8, 9, 23, 24, 25, 26, 27, 28, 29] (by decide +kernel) (by decide +kernel)
set_option maxRecDepth 20000 in
theorem gX9_info_X9_refused : GoodIn wsX9_info (wsV RX9 33 RX9 yX9_refused wsX9_refused) := goodIn_app (goodIn_of _ (by decide +kernel)) ggX9_info_X9_refused
set_option maxRecDepth 20000 in
theorem ggX9_info_X9_number : GoodIn wsX9_info wsX9_number := goodIn_r _ [13, 14, 15, 16, 17, 3, 18, 19, 20, 21, 22, 23, 24, 25, 26, 27, 28, 29] (by decide +kernel) (by decide +kernel)
set_option maxRecDepth 20000 in
theorem gX9_info_X9_number : GoodIn wsX9_info (wsV RX9 122 RX9 yX9_number wsX9_number) := goodIn_app (goodIn_of _ (by decide +kernel)) ggX9_info_X9_number
theorem dX9_info_0 : decode cX9_info 0 = .ok (.aload_n 0, 1) := by decide +kernel
theorem dX9_info_1 : decode cX9_info 1 = .ok (.iload_n 1, 1) := by decide +kernel
theorem dX9_info_2 : decode cX9_info 2 = .ok (.iconst 0, 1) := by decide +kernel
theorem dX9_info_3 : decode cX9_info 3 = .ok (.bipush 14, 2) := by decide +kernel
theorem dX9_info_5 : decode cX9_info 5 = .ok (.invokestatic 37, 3) := by decide +kernel
theorem dX9_info_8 : decode cX9_info 8 = .ok (.ifCond .eq 7, 3) := by decide +kernel
theorem dX9_info_11 : decode cX9_info 11 = .ok (.iconst 0, 1) := by decide +kernel
theorem dX9_info_12 : decode cX9_info 12 = .ok (.goto 4, 3) := by decide +kernel
theorem dX9_info_15 : decode cX9_info 15 = .ok (.iconst 1, 1) := by decide +kernel
theorem dX9_info_16 : decode cX9_info 16 = .ok (.invokevirtual 33, 3) := by decide +kernel
theorem dX9_info_19 : decode cX9_info 19 = .ok (.ifCond .eq 7, 3) := by decide +kernel
theorem dX9_info_22 : decode cX9_info 22 = .ok (.iconst 0, 1) := by decide +kernel
theorem dX9_info_23 : decode cX9_info 23 = .ok (.goto 8, 3) := by decide +kernel
theorem dX9_info_26 : decode cX9_info 26 = .ok (.aload_n 0, 1) := by decide +kernel
theorem dX9_info_27 : decode cX9_info 27 = .ok (.iload_n 1, 1) := by decide +kernel
theorem dX9_info_28 : decode cX9_info 28 = .ok (.invokevirtual 122, 3) := by decide +kernel
theorem dX9_info_31 : decode cX9_info 31 = .ok (.ireturn, 1) := by decide +kernel
set_option maxRecDepth 20000 in
theorem ggX9_roomTold_X9_hasAlarm : GoodIn wsX9_roomTold wsX9_hasAlarm := goodIn_r _ [6, 1, 27, 28, 29, 30, 31, 32, 33] (by decide +kernel) (by decide +kernel)
set_option maxRecDepth 20000 in
theorem gX9_roomTold_X9_hasAlarm : GoodIn wsX9_roomTold (wsV RX9 62 RX9 yX9_hasAlarm wsX9_hasAlarm) := goodIn_app (goodIn_of _ (by decide +kernel)) ggX9_roomTold_X9_hasAlarm
set_option maxRecDepth 20000 in
theorem ggX9_roomTold_X9_isAgreed : GoodIn wsX9_roomTold wsX9_isAgreed := goodIn_r _ [10, 1, 11, 12, 13, 5, 14, 15, 16, 17, 18, 19, 20, 21, 22, 23, 24, 25, 26, 27, 28, 29, 30, 31, 32, 33] (by decide +kernel) (by decide +kernel)
set_option maxRecDepth 20000 in
theorem gX9_roomTold_X9_isAgreed : GoodIn wsX9_roomTold (wsV RX9 83 RX9 yX9_isAgreed wsX9_isAgreed) := goodIn_app (goodIn_of _ (by decide +kernel)) ggX9_roomTold_X9_isAgreed
set_option maxRecDepth 20000 in
theorem ggX9_roomTold_X9_votersIn : GoodIn wsX9_roomTold wsX9_votersIn := goodIn_r _ [14, 1, 15, 16, 17, 5, 18, 19, 20, 21, 22, 27, 28, 29, 30, 31, 32, 33] (by decide +kernel) (by decide +kernel)
set_option maxRecDepth 20000 in
theorem gX9_roomTold_X9_votersIn : GoodIn wsX9_roomTold (wsV RX9 55 RX9 yX9_votersIn wsX9_votersIn) := goodIn_app (goodIn_of _ (by decide +kernel)) ggX9_roomTold_X9_votersIn
set_option maxRecDepth 20000 in
theorem ggX9_roomTold_X9_weightOf : GoodIn wsX9_roomTold wsX9_weightOf := goodIn_r _ [26, 1, 15, 16, 17, 5, 18, 27, 28, 29, 30, 31, 32, 33] (by decide +kernel) (by decide +kernel)
set_option maxRecDepth 20000 in
theorem gX9_roomTold_X9_weightOf : GoodIn wsX9_roomTold (wsV RX9 59 RX9 yX9_weightOf wsX9_weightOf) := goodIn_app (goodIn_of _ (by decide +kernel)) ggX9_roomTold_X9_weightOf
theorem dX9_roomTold_0 : decode cX9_roomTold 0 = .ok (.iload_n 2, 1) := by decide +kernel
theorem dX9_roomTold_1 : decode cX9_roomTold 1 = .ok (.tableswitch 103 0 5 #[39, 49, 59, 69, 83, 97], 39) := by decide +kernel
theorem dX9_roomTold_40 : decode cX9_roomTold 40 = .ok (.aload_n 0, 1) := by decide +kernel
theorem dX9_roomTold_41 : decode cX9_roomTold 41 = .ok (.getfield 7, 3) := by decide +kernel
theorem dX9_roomTold_44 : decode cX9_roomTold 44 = .ok (.bipush 20, 2) := by decide +kernel
theorem dX9_roomTold_46 : decode cX9_roomTold 46 = .ok (.iload_n 1, 1) := by decide +kernel
theorem dX9_roomTold_47 : decode cX9_roomTold 47 = .ok (.iadd, 1) := by decide +kernel
theorem dX9_roomTold_48 : decode cX9_roomTold 48 = .ok (.iaload, 1) := by decide +kernel
theorem dX9_roomTold_49 : decode cX9_roomTold 49 = .ok (.ireturn, 1) := by decide +kernel
theorem dX9_roomTold_50 : decode cX9_roomTold 50 = .ok (.aload_n 0, 1) := by decide +kernel
theorem dX9_roomTold_51 : decode cX9_roomTold 51 = .ok (.getfield 7, 3) := by decide +kernel
theorem dX9_roomTold_54 : decode cX9_roomTold 54 = .ok (.bipush 24, 2) := by decide +kernel
theorem dX9_roomTold_56 : decode cX9_roomTold 56 = .ok (.iload_n 1, 1) := by decide +kernel
theorem dX9_roomTold_57 : decode cX9_roomTold 57 = .ok (.iadd, 1) := by decide +kernel
theorem dX9_roomTold_58 : decode cX9_roomTold 58 = .ok (.iaload, 1) := by decide +kernel
theorem dX9_roomTold_59 : decode cX9_roomTold 59 = .ok (.ireturn, 1) := by decide +kernel
theorem dX9_roomTold_60 : decode cX9_roomTold 60 = .ok (.aload_n 0, 1) := by decide +kernel
theorem dX9_roomTold_61 : decode cX9_roomTold 61 = .ok (.getfield 7, 3) := by decide +kernel
theorem dX9_roomTold_64 : decode cX9_roomTold 64 = .ok (.bipush 28, 2) := by decide +kernel
theorem dX9_roomTold_66 : decode cX9_roomTold 66 = .ok (.iload_n 1, 1) := by decide +kernel
theorem dX9_roomTold_67 : decode cX9_roomTold 67 = .ok (.iadd, 1) := by decide +kernel
theorem dX9_roomTold_68 : decode cX9_roomTold 68 = .ok (.iaload, 1) := by decide +kernel
theorem dX9_roomTold_69 : decode cX9_roomTold 69 = .ok (.ireturn, 1) := by decide +kernel
theorem dX9_roomTold_70 : decode cX9_roomTold 70 = .ok (.aload_n 0, 1) := by decide +kernel
theorem dX9_roomTold_71 : decode cX9_roomTold 71 = .ok (.iload_n 1, 1) := by decide +kernel
theorem dX9_roomTold_72 : decode cX9_roomTold 72 = .ok (.invokevirtual 62, 3) := by decide +kernel
theorem dX9_roomTold_75 : decode cX9_roomTold 75 = .ok (.ifCond .eq 7, 3) := by decide +kernel
theorem dX9_roomTold_78 : decode cX9_roomTold 78 = .ok (.iconst 1, 1) := by decide +kernel
theorem dX9_roomTold_79 : decode cX9_roomTold 79 = .ok (.goto 4, 3) := by decide +kernel
theorem dX9_roomTold_82 : decode cX9_roomTold 82 = .ok (.iconst 0, 1) := by decide +kernel
theorem dX9_roomTold_83 : decode cX9_roomTold 83 = .ok (.ireturn, 1) := by decide +kernel
theorem dX9_roomTold_84 : decode cX9_roomTold 84 = .ok (.aload_n 0, 1) := by decide +kernel
theorem dX9_roomTold_85 : decode cX9_roomTold 85 = .ok (.iload_n 1, 1) := by decide +kernel
theorem dX9_roomTold_86 : decode cX9_roomTold 86 = .ok (.invokevirtual 83, 3) := by decide +kernel
theorem dX9_roomTold_89 : decode cX9_roomTold 89 = .ok (.ifCond .eq 7, 3) := by decide +kernel
theorem dX9_roomTold_92 : decode cX9_roomTold 92 = .ok (.iconst 1, 1) := by decide +kernel
theorem dX9_roomTold_93 : decode cX9_roomTold 93 = .ok (.goto 4, 3) := by decide +kernel
theorem dX9_roomTold_96 : decode cX9_roomTold 96 = .ok (.iconst 0, 1) := by decide +kernel
theorem dX9_roomTold_97 : decode cX9_roomTold 97 = .ok (.ireturn, 1) := by decide +kernel
theorem dX9_roomTold_98 : decode cX9_roomTold 98 = .ok (.aload_n 0, 1) := by decide +kernel
theorem dX9_roomTold_99 : decode cX9_roomTold 99 = .ok (.iload_n 1, 1) := by decide +kernel
theorem dX9_roomTold_100 : decode cX9_roomTold 100 = .ok (.invokevirtual 55, 3) := by decide +kernel
theorem dX9_roomTold_103 : decode cX9_roomTold 103 = .ok (.ireturn, 1) := by decide +kernel
theorem dX9_roomTold_104 : decode cX9_roomTold 104 = .ok (.aload_n 0, 1) := by decide +kernel
theorem dX9_roomTold_105 : decode cX9_roomTold 105 = .ok (.aload_n 0, 1) := by decide +kernel
theorem dX9_roomTold_106 : decode cX9_roomTold 106 = .ok (.iload_n 1, 1) := by decide +kernel
theorem dX9_roomTold_107 : decode cX9_roomTold 107 = .ok (.invokevirtual 55, 3) := by decide +kernel
theorem dX9_roomTold_110 : decode cX9_roomTold 110 = .ok (.invokevirtual 59, 3) := by decide +kernel
theorem dX9_roomTold_113 : decode cX9_roomTold 113 = .ok (.ireturn, 1) := by decide +kernel
set_option maxRecDepth 20000 in
theorem ggX9_room_X9_isRoom : GoodIn wsX9_room wsX9_isRoom := goodIn_r _ [5, 6, 7, 8, 4, 9, 43, 44, 45, 46, 47, 48, 49] (by decide +kernel) (by decide +kernel)
set_option maxRecDepth 20000 in
theorem gX9_room_X9_isRoom : GoodIn wsX9_room (wsV RX9 119 RX9 yX9_isRoom wsX9_isRoom) := goodIn_app (goodIn_of _ (by decide +kernel)) ggX9_room_X9_isRoom
set_option maxRecDepth 20000 in
theorem ggX9_room_X9_within : GoodIn wsX9_room wsX9_within := goodIn_r _ [9] (by decide +kernel) (by decide +kernel)
set_option maxRecDepth 20000 in
theorem gX9_room_X9_within : GoodIn wsX9_room (va_wsS RX9 37 yX9_within wsX9_within) := goodIn_app (goodIn_of _ (by decide +kernel)) ggX9_room_X9_within
set_option maxRecDepth 20000 in
theorem ggX9_room_X9_refused : GoodIn wsX9_room wsX9_refused := goodIn_r _ [13, 14, 43, 44, 45, 46, 47, 48, 49] (by decide +kernel) (by decide +kernel)
set_option maxRecDepth 20000 in
theorem gX9_room_X9_refused : GoodIn wsX9_room (wsV RX9 33 RX9 yX9_refused wsX9_refused) := goodIn_app (goodIn_of _ (by decide +kernel)) ggX9_room_X9_refused
set_option maxRecDepth 20000 in
theorem ggX9_room_X9_roomTold : GoodIn wsX9_room wsX9_roomTold := goodIn_r _ [18, 6, 19, 20, 21, 4, 22, 23, 24, 25, 26, 27, 28, 29, 30, 31, 32, 33, 34, 35, 36, 37, 38, 39, 40, 41, 42, 43, 44, 45, 46, 47, 48, 49] (by decide +kernel) (by decide +kernel)
set_option maxRecDepth 20000 in
theorem gX9_room_X9_roomTold : GoodIn wsX9_room (wsV RX9 125 RX9 yX9_roomTold wsX9_roomTold) := goodIn_app (goodIn_of _ (by decide +kernel)) ggX9_room_X9_roomTold
theorem dX9_room_0 : decode cX9_room 0 = .ok (.aload_n 0, 1) := by decide +kernel
theorem dX9_room_1 : decode cX9_room 1 = .ok (.aload_n 0, 1) := by decide +kernel
theorem dX9_room_2 : decode cX9_room 2 = .ok (.iload_n 1, 1) := by decide +kernel
theorem dX9_room_3 : decode cX9_room 3 = .ok (.invokevirtual 119, 3) := by decide +kernel
theorem dX9_room_6 : decode cX9_room 6 = .ok (.ifCond .ne 7, 3) := by decide +kernel
theorem dX9_room_9 : decode cX9_room 9 = .ok (.iconst 1, 1) := by decide +kernel
theorem dX9_room_10 : decode cX9_room 10 = .ok (.goto 18, 3) := by decide +kernel
theorem dX9_room_13 : decode cX9_room 13 = .ok (.iload_n 2, 1) := by decide +kernel
theorem dX9_room_14 : decode cX9_room 14 = .ok (.iconst 0, 1) := by decide +kernel
theorem dX9_room_15 : decode cX9_room 15 = .ok (.bipush 6, 2) := by decide +kernel
theorem dX9_room_17 : decode cX9_room 17 = .ok (.invokestatic 37, 3) := by decide +kernel
theorem dX9_room_20 : decode cX9_room 20 = .ok (.ifCond .ne 7, 3) := by decide +kernel
theorem dX9_room_23 : decode cX9_room 23 = .ok (.iconst 2, 1) := by decide +kernel
theorem dX9_room_24 : decode cX9_room 24 = .ok (.goto 4, 3) := by decide +kernel
theorem dX9_room_27 : decode cX9_room 27 = .ok (.iconst 0, 1) := by decide +kernel
theorem dX9_room_28 : decode cX9_room 28 = .ok (.invokevirtual 33, 3) := by decide +kernel
theorem dX9_room_31 : decode cX9_room 31 = .ok (.ifCond .eq 7, 3) := by decide +kernel
theorem dX9_room_34 : decode cX9_room 34 = .ok (.iconst 0, 1) := by decide +kernel
theorem dX9_room_35 : decode cX9_room 35 = .ok (.goto 9, 3) := by decide +kernel
theorem dX9_room_38 : decode cX9_room 38 = .ok (.aload_n 0, 1) := by decide +kernel
theorem dX9_room_39 : decode cX9_room 39 = .ok (.iload_n 1, 1) := by decide +kernel
theorem dX9_room_40 : decode cX9_room 40 = .ok (.iload_n 2, 1) := by decide +kernel
theorem dX9_room_41 : decode cX9_room 41 = .ok (.invokevirtual 125, 3) := by decide +kernel
theorem dX9_room_44 : decode cX9_room 44 = .ok (.ireturn, 1) := by decide +kernel
set_option maxRecDepth 20000 in
theorem ggX9_addSensor_X9_within : GoodIn wsX9_addSensor wsX9_within := goodIn_r _ [5] (by decide +kernel) (by decide +kernel)
set_option maxRecDepth 20000 in
theorem gX9_addSensor_X9_within : GoodIn wsX9_addSensor (va_wsS RX9 37 yX9_within wsX9_within) := goodIn_app (goodIn_of _ (by decide +kernel)) ggX9_addSensor_X9_within
set_option maxRecDepth 20000 in
theorem ggX9_addSensor_X9_isRoom : GoodIn wsX9_addSensor wsX9_isRoom := goodIn_r _ [9, 1, 2, 3, 4, 5, 21, 22, 23, 24, 25, 26, 27] (by decide +kernel) (by decide +kernel)
set_option maxRecDepth 20000 in
theorem gX9_addSensor_X9_isRoom : GoodIn wsX9_addSensor (wsV RX9 119 RX9 yX9_isRoom wsX9_isRoom) := goodIn_app (goodIn_of _ (by decide +kernel)) ggX9_addSensor_X9_isRoom
set_option maxRecDepth 20000 in
theorem ggX9_addSensor_X9_refused : GoodIn wsX9_addSensor wsX9_refused := goodIn_r _ [13, 14, 21, 22, 23, 24, 25, 26, 27] (by decide +kernel) (by decide +kernel)
set_option maxRecDepth 20000 in
theorem gX9_addSensor_X9_refused : GoodIn wsX9_addSensor (wsV RX9 33 RX9 yX9_refused wsX9_refused) := goodIn_app (goodIn_of _ (by decide +kernel)) ggX9_addSensor_X9_refused
set_option maxRecDepth 20000 in
theorem ggX9_addSensor_X9_saves : GoodIn wsX9_addSensor wsX9_saves := goodIn_r _ [18, 19, 20, 1, 21, 22, 23, 24, 25, 26, 27] (by decide +kernel) (by decide +kernel)
set_option maxRecDepth 20000 in
theorem gX9_addSensor_X9_saves : GoodIn wsX9_addSensor (wsV RX9 107 RX9 yX9_saves wsX9_saves) := goodIn_app (goodIn_of _ (by decide +kernel)) ggX9_addSensor_X9_saves
theorem dX9_addSensor_0 : decode cX9_addSensor 0 = .ok (.iload_n 2, 1) := by decide +kernel
theorem dX9_addSensor_1 : decode cX9_addSensor 1 = .ok (.iconst 0, 1) := by decide +kernel
theorem dX9_addSensor_2 : decode cX9_addSensor 2 = .ok (.iconst 2, 1) := by decide +kernel
theorem dX9_addSensor_3 : decode cX9_addSensor 3 = .ok (.invokestatic 37, 3) := by decide +kernel
theorem dX9_addSensor_6 : decode cX9_addSensor 6 = .ok (.ifCond .eq 39, 3) := by decide +kernel
theorem dX9_addSensor_9 : decode cX9_addSensor 9 = .ok (.iload_n 3, 1) := by decide +kernel
theorem dX9_addSensor_10 : decode cX9_addSensor 10 = .ok (.iconst 1, 1) := by decide +kernel
theorem dX9_addSensor_11 : decode cX9_addSensor 11 = .ok (.sipush 9999, 3) := by decide +kernel
theorem dX9_addSensor_14 : decode cX9_addSensor 14 = .ok (.invokestatic 37, 3) := by decide +kernel
theorem dX9_addSensor_17 : decode cX9_addSensor 17 = .ok (.ifCond .eq 28, 3) := by decide +kernel
theorem dX9_addSensor_20 : decode cX9_addSensor 20 = .ok (.iload 4, 2) := by decide +kernel
theorem dX9_addSensor_22 : decode cX9_addSensor 22 = .ok (.iconst 0, 1) := by decide +kernel
theorem dX9_addSensor_23 : decode cX9_addSensor 23 = .ok (.bipush 9, 2) := by decide +kernel
theorem dX9_addSensor_25 : decode cX9_addSensor 25 = .ok (.invokestatic 37, 3) := by decide +kernel
theorem dX9_addSensor_28 : decode cX9_addSensor 28 = .ok (.ifCond .eq 17, 3) := by decide +kernel
theorem dX9_addSensor_31 : decode cX9_addSensor 31 = .ok (.iload 5, 2) := by decide +kernel
theorem dX9_addSensor_33 : decode cX9_addSensor 33 = .ok (.iconst 1, 1) := by decide +kernel
theorem dX9_addSensor_34 : decode cX9_addSensor 34 = .ok (.iconst 3, 1) := by decide +kernel
theorem dX9_addSensor_35 : decode cX9_addSensor 35 = .ok (.invokestatic 37, 3) := by decide +kernel
theorem dX9_addSensor_38 : decode cX9_addSensor 38 = .ok (.ifCond .eq 7, 3) := by decide +kernel
theorem dX9_addSensor_41 : decode cX9_addSensor 41 = .ok (.iconst 1, 1) := by decide +kernel
theorem dX9_addSensor_42 : decode cX9_addSensor 42 = .ok (.goto 4, 3) := by decide +kernel
theorem dX9_addSensor_45 : decode cX9_addSensor 45 = .ok (.iconst 0, 1) := by decide +kernel
theorem dX9_addSensor_46 : decode cX9_addSensor 46 = .ok (.istore 6, 2) := by decide +kernel
theorem dX9_addSensor_48 : decode cX9_addSensor 48 = .ok (.aload_n 0, 1) := by decide +kernel
theorem dX9_addSensor_49 : decode cX9_addSensor 49 = .ok (.aload_n 0, 1) := by decide +kernel
theorem dX9_addSensor_50 : decode cX9_addSensor 50 = .ok (.iload_n 1, 1) := by decide +kernel
theorem dX9_addSensor_51 : decode cX9_addSensor 51 = .ok (.invokevirtual 119, 3) := by decide +kernel
theorem dX9_addSensor_54 : decode cX9_addSensor 54 = .ok (.ifCond .ne 7, 3) := by decide +kernel
theorem dX9_addSensor_57 : decode cX9_addSensor 57 = .ok (.iconst 1, 1) := by decide +kernel
theorem dX9_addSensor_58 : decode cX9_addSensor 58 = .ok (.goto 29, 3) := by decide +kernel
theorem dX9_addSensor_61 : decode cX9_addSensor 61 = .ok (.iload 6, 2) := by decide +kernel
theorem dX9_addSensor_63 : decode cX9_addSensor 63 = .ok (.ifCond .ne 7, 3) := by decide +kernel
theorem dX9_addSensor_66 : decode cX9_addSensor 66 = .ok (.iconst 2, 1) := by decide +kernel
theorem dX9_addSensor_67 : decode cX9_addSensor 67 = .ok (.goto 20, 3) := by decide +kernel
theorem dX9_addSensor_70 : decode cX9_addSensor 70 = .ok (.aload_n 0, 1) := by decide +kernel
theorem dX9_addSensor_71 : decode cX9_addSensor 71 = .ok (.getfield 7, 3) := by decide +kernel
theorem dX9_addSensor_74 : decode cX9_addSensor 74 = .ok (.bipush 10, 2) := by decide +kernel
theorem dX9_addSensor_76 : decode cX9_addSensor 76 = .ok (.iaload, 1) := by decide +kernel
theorem dX9_addSensor_77 : decode cX9_addSensor 77 = .ok (.bipush 8, 2) := by decide +kernel
theorem dX9_addSensor_79 : decode cX9_addSensor 79 = .ok (.if_icmp .ne 7, 3) := by decide +kernel
theorem dX9_addSensor_82 : decode cX9_addSensor 82 = .ok (.iconst 3, 1) := by decide +kernel
theorem dX9_addSensor_83 : decode cX9_addSensor 83 = .ok (.goto 4, 3) := by decide +kernel
theorem dX9_addSensor_86 : decode cX9_addSensor 86 = .ok (.iconst 0, 1) := by decide +kernel
theorem dX9_addSensor_87 : decode cX9_addSensor 87 = .ok (.invokevirtual 33, 3) := by decide +kernel
theorem dX9_addSensor_90 : decode cX9_addSensor 90 = .ok (.ifCond .eq 5, 3) := by decide +kernel
theorem dX9_addSensor_93 : decode cX9_addSensor 93 = .ok (.iconst 0, 1) := by decide +kernel
theorem dX9_addSensor_94 : decode cX9_addSensor 94 = .ok (.ireturn, 1) := by decide +kernel
theorem dX9_addSensor_95 : decode cX9_addSensor 95 = .ok (.aload_n 0, 1) := by decide +kernel
theorem dX9_addSensor_96 : decode cX9_addSensor 96 = .ok (.invokevirtual 107, 3) := by decide +kernel
theorem dX9_addSensor_99 : decode cX9_addSensor 99 = .ok (.bipush 57, 2) := by decide +kernel
theorem dX9_addSensor_101 : decode cX9_addSensor 101 = .ok (.bipush 7, 2) := by decide +kernel
theorem dX9_addSensor_103 : decode cX9_addSensor 103 = .ok (.aload_n 0, 1) := by decide +kernel
theorem dX9_addSensor_104 : decode cX9_addSensor 104 = .ok (.getfield 7, 3) := by decide +kernel
theorem dX9_addSensor_107 : decode cX9_addSensor 107 = .ok (.bipush 10, 2) := by decide +kernel
theorem dX9_addSensor_109 : decode cX9_addSensor 109 = .ok (.iaload, 1) := by decide +kernel
theorem dX9_addSensor_110 : decode cX9_addSensor 110 = .ok (.imul, 1) := by decide +kernel
theorem dX9_addSensor_111 : decode cX9_addSensor 111 = .ok (.iadd, 1) := by decide +kernel
theorem dX9_addSensor_112 : decode cX9_addSensor 112 = .ok (.istore 7, 2) := by decide +kernel
theorem dX9_addSensor_114 : decode cX9_addSensor 114 = .ok (.aload_n 0, 1) := by decide +kernel
theorem dX9_addSensor_115 : decode cX9_addSensor 115 = .ok (.getfield 7, 3) := by decide +kernel
theorem dX9_addSensor_118 : decode cX9_addSensor 118 = .ok (.iload 7, 2) := by decide +kernel
theorem dX9_addSensor_120 : decode cX9_addSensor 120 = .ok (.iload_n 1, 1) := by decide +kernel
theorem dX9_addSensor_121 : decode cX9_addSensor 121 = .ok (.iastore, 1) := by decide +kernel
theorem dX9_addSensor_122 : decode cX9_addSensor 122 = .ok (.aload_n 0, 1) := by decide +kernel
theorem dX9_addSensor_123 : decode cX9_addSensor 123 = .ok (.getfield 7, 3) := by decide +kernel
theorem dX9_addSensor_126 : decode cX9_addSensor 126 = .ok (.iload 7, 2) := by decide +kernel
theorem dX9_addSensor_128 : decode cX9_addSensor 128 = .ok (.iconst 1, 1) := by decide +kernel
theorem dX9_addSensor_129 : decode cX9_addSensor 129 = .ok (.iadd, 1) := by decide +kernel
theorem dX9_addSensor_130 : decode cX9_addSensor 130 = .ok (.iload_n 2, 1) := by decide +kernel
theorem dX9_addSensor_131 : decode cX9_addSensor 131 = .ok (.iastore, 1) := by decide +kernel
theorem dX9_addSensor_132 : decode cX9_addSensor 132 = .ok (.aload_n 0, 1) := by decide +kernel
theorem dX9_addSensor_133 : decode cX9_addSensor 133 = .ok (.getfield 7, 3) := by decide +kernel
theorem dX9_addSensor_136 : decode cX9_addSensor 136 = .ok (.iload 7, 2) := by decide +kernel
theorem dX9_addSensor_138 : decode cX9_addSensor 138 = .ok (.iconst 2, 1) := by decide +kernel
theorem dX9_addSensor_139 : decode cX9_addSensor 139 = .ok (.iadd, 1) := by decide +kernel
theorem dX9_addSensor_140 : decode cX9_addSensor 140 = .ok (.iload_n 3, 1) := by decide +kernel
theorem dX9_addSensor_141 : decode cX9_addSensor 141 = .ok (.iastore, 1) := by decide +kernel
theorem dX9_addSensor_142 : decode cX9_addSensor 142 = .ok (.aload_n 0, 1) := by decide +kernel
theorem dX9_addSensor_143 : decode cX9_addSensor 143 = .ok (.getfield 7, 3) := by decide +kernel
theorem dX9_addSensor_146 : decode cX9_addSensor 146 = .ok (.iload 7, 2) := by decide +kernel
theorem dX9_addSensor_148 : decode cX9_addSensor 148 = .ok (.iconst 3, 1) := by decide +kernel
theorem dX9_addSensor_149 : decode cX9_addSensor 149 = .ok (.iadd, 1) := by decide +kernel
theorem dX9_addSensor_150 : decode cX9_addSensor 150 = .ok (.iload 4, 2) := by decide +kernel
theorem dX9_addSensor_152 : decode cX9_addSensor 152 = .ok (.iastore, 1) := by decide +kernel
theorem dX9_addSensor_153 : decode cX9_addSensor 153 = .ok (.aload_n 0, 1) := by decide +kernel
theorem dX9_addSensor_154 : decode cX9_addSensor 154 = .ok (.getfield 7, 3) := by decide +kernel
theorem dX9_addSensor_157 : decode cX9_addSensor 157 = .ok (.iload 7, 2) := by decide +kernel
theorem dX9_addSensor_159 : decode cX9_addSensor 159 = .ok (.iconst 4, 1) := by decide +kernel
theorem dX9_addSensor_160 : decode cX9_addSensor 160 = .ok (.iadd, 1) := by decide +kernel
theorem dX9_addSensor_161 : decode cX9_addSensor 161 = .ok (.iload 5, 2) := by decide +kernel
theorem dX9_addSensor_163 : decode cX9_addSensor 163 = .ok (.iastore, 1) := by decide +kernel
theorem dX9_addSensor_164 : decode cX9_addSensor 164 = .ok (.aload_n 0, 1) := by decide +kernel
theorem dX9_addSensor_165 : decode cX9_addSensor 165 = .ok (.getfield 7, 3) := by decide +kernel
theorem dX9_addSensor_168 : decode cX9_addSensor 168 = .ok (.iload 7, 2) := by decide +kernel
theorem dX9_addSensor_170 : decode cX9_addSensor 170 = .ok (.iconst 5, 1) := by decide +kernel
theorem dX9_addSensor_171 : decode cX9_addSensor 171 = .ok (.iadd, 1) := by decide +kernel
theorem dX9_addSensor_172 : decode cX9_addSensor 172 = .ok (.iconst 0, 1) := by decide +kernel
theorem dX9_addSensor_173 : decode cX9_addSensor 173 = .ok (.iastore, 1) := by decide +kernel
theorem dX9_addSensor_174 : decode cX9_addSensor 174 = .ok (.aload_n 0, 1) := by decide +kernel
theorem dX9_addSensor_175 : decode cX9_addSensor 175 = .ok (.getfield 7, 3) := by decide +kernel
theorem dX9_addSensor_178 : decode cX9_addSensor 178 = .ok (.iload 7, 2) := by decide +kernel
theorem dX9_addSensor_180 : decode cX9_addSensor 180 = .ok (.bipush 6, 2) := by decide +kernel
theorem dX9_addSensor_182 : decode cX9_addSensor 182 = .ok (.iadd, 1) := by decide +kernel
theorem dX9_addSensor_183 : decode cX9_addSensor 183 = .ok (.iconst 0, 1) := by decide +kernel
theorem dX9_addSensor_184 : decode cX9_addSensor 184 = .ok (.iastore, 1) := by decide +kernel
theorem dX9_addSensor_185 : decode cX9_addSensor 185 = .ok (.aload_n 0, 1) := by decide +kernel
theorem dX9_addSensor_186 : decode cX9_addSensor 186 = .ok (.getfield 7, 3) := by decide +kernel
theorem dX9_addSensor_189 : decode cX9_addSensor 189 = .ok (.bipush 10, 2) := by decide +kernel
theorem dX9_addSensor_191 : decode cX9_addSensor 191 = .ok (.dup2, 1) := by decide +kernel
theorem dX9_addSensor_192 : decode cX9_addSensor 192 = .ok (.iaload, 1) := by decide +kernel
theorem dX9_addSensor_193 : decode cX9_addSensor 193 = .ok (.iconst 1, 1) := by decide +kernel
theorem dX9_addSensor_194 : decode cX9_addSensor 194 = .ok (.iadd, 1) := by decide +kernel
theorem dX9_addSensor_195 : decode cX9_addSensor 195 = .ok (.iastore, 1) := by decide +kernel
theorem dX9_addSensor_196 : decode cX9_addSensor 196 = .ok (.aload_n 0, 1) := by decide +kernel
theorem dX9_addSensor_197 : decode cX9_addSensor 197 = .ok (.getfield 7, 3) := by decide +kernel
theorem dX9_addSensor_200 : decode cX9_addSensor 200 = .ok (.bipush 10, 2) := by decide +kernel
theorem dX9_addSensor_202 : decode cX9_addSensor 202 = .ok (.iaload, 1) := by decide +kernel
theorem dX9_addSensor_203 : decode cX9_addSensor 203 = .ok (.iconst 1, 1) := by decide +kernel
theorem dX9_addSensor_204 : decode cX9_addSensor 204 = .ok (.isub, 1) := by decide +kernel
theorem dX9_addSensor_205 : decode cX9_addSensor 205 = .ok (.ireturn, 1) := by decide +kernel
set_option maxRecDepth 20000 in
theorem ggX9_isSensor_X9_within : GoodIn wsX9_isSensor wsX9_within := goodIn_r _ [5] (by decide +kernel) (by decide +kernel)
set_option maxRecDepth 20000 in
theorem gX9_isSensor_X9_within : GoodIn wsX9_isSensor (va_wsS RX9 37 yX9_within wsX9_within) := goodIn_app (goodIn_of _ (by decide +kernel)) ggX9_isSensor_X9_within
theorem dX9_isSensor_0 : decode cX9_isSensor 0 = .ok (.iload_n 1, 1) := by decide +kernel
theorem dX9_isSensor_1 : decode cX9_isSensor 1 = .ok (.iconst 0, 1) := by decide +kernel
theorem dX9_isSensor_2 : decode cX9_isSensor 2 = .ok (.aload_n 0, 1) := by decide +kernel
theorem dX9_isSensor_3 : decode cX9_isSensor 3 = .ok (.getfield 7, 3) := by decide +kernel
theorem dX9_isSensor_6 : decode cX9_isSensor 6 = .ok (.bipush 10, 2) := by decide +kernel
theorem dX9_isSensor_8 : decode cX9_isSensor 8 = .ok (.iaload, 1) := by decide +kernel
theorem dX9_isSensor_9 : decode cX9_isSensor 9 = .ok (.iconst 1, 1) := by decide +kernel
theorem dX9_isSensor_10 : decode cX9_isSensor 10 = .ok (.isub, 1) := by decide +kernel
theorem dX9_isSensor_11 : decode cX9_isSensor 11 = .ok (.invokestatic 37, 3) := by decide +kernel
theorem dX9_isSensor_14 : decode cX9_isSensor 14 = .ok (.ireturn, 1) := by decide +kernel
set_option maxRecDepth 20000 in
theorem ggX9_setFault_X9_isSensor : GoodIn wsX9_setFault wsX9_isSensor := goodIn_r _ [5, 6, 7, 8, 4, 9, 25, 26, 27, 28, 29, 30, 31] (by decide +kernel) (by decide +kernel)
set_option maxRecDepth 20000 in
theorem gX9_setFault_X9_isSensor : GoodIn wsX9_setFault (wsV RX9 128 RX9 yX9_isSensor wsX9_isSensor) := goodIn_app (goodIn_of _ (by decide +kernel)) ggX9_setFault_X9_isSensor
set_option maxRecDepth 20000 in
theorem ggX9_setFault_X9_within : GoodIn wsX9_setFault wsX9_within := goodIn_r _ [9] (by decide +kernel) (by decide +kernel)
set_option maxRecDepth 20000 in
theorem gX9_setFault_X9_within : GoodIn wsX9_setFault (va_wsS RX9 37 yX9_within wsX9_within) := goodIn_app (goodIn_of _ (by decide +kernel)) ggX9_setFault_X9_within
set_option maxRecDepth 20000 in
theorem ggX9_setFault_X9_refused : GoodIn wsX9_setFault wsX9_refused := goodIn_r _ [13, 14, 25, 26, 27, 28, 29, 30, 31] (by decide +kernel) (by decide +kernel)
set_option maxRecDepth 20000 in
theorem gX9_setFault_X9_refused : GoodIn wsX9_setFault (wsV RX9 33 RX9 yX9_refused wsX9_refused) := goodIn_app (goodIn_of _ (by decide +kernel)) ggX9_setFault_X9_refused
set_option maxRecDepth 20000 in
theorem ggX9_setFault_X9_puts : GoodIn wsX9_setFault wsX9_puts := goodIn_r _ [18, 6, 19, 20, 21, 4, 22, 23, 24, 25, 26, 27, 28, 29, 30, 31] (by decide +kernel) (by decide +kernel)
set_option maxRecDepth 20000 in
theorem gX9_setFault_X9_puts : GoodIn wsX9_setFault (wsV RX9 113 RX9 yX9_puts wsX9_puts) := goodIn_app (goodIn_of _ (by decide +kernel)) ggX9_setFault_X9_puts
theorem dX9_setFault_0 : decode cX9_setFault 0 = .ok (.aload_n 0, 1) := by decide +kernel
theorem dX9_setFault_1 : decode cX9_setFault 1 = .ok (.aload_n 0, 1) := by decide +kernel
theorem dX9_setFault_2 : decode cX9_setFault 2 = .ok (.iload_n 1, 1) := by decide +kernel
theorem dX9_setFault_3 : decode cX9_setFault 3 = .ok (.invokevirtual 128, 3) := by decide +kernel
theorem dX9_setFault_6 : decode cX9_setFault 6 = .ok (.ifCond .ne 7, 3) := by decide +kernel
theorem dX9_setFault_9 : decode cX9_setFault 9 = .ok (.iconst 1, 1) := by decide +kernel
theorem dX9_setFault_10 : decode cX9_setFault 10 = .ok (.goto 17, 3) := by decide +kernel
theorem dX9_setFault_13 : decode cX9_setFault 13 = .ok (.iload_n 2, 1) := by decide +kernel
theorem dX9_setFault_14 : decode cX9_setFault 14 = .ok (.iconst 0, 1) := by decide +kernel
theorem dX9_setFault_15 : decode cX9_setFault 15 = .ok (.iconst 2, 1) := by decide +kernel
theorem dX9_setFault_16 : decode cX9_setFault 16 = .ok (.invokestatic 37, 3) := by decide +kernel
theorem dX9_setFault_19 : decode cX9_setFault 19 = .ok (.ifCond .ne 7, 3) := by decide +kernel
theorem dX9_setFault_22 : decode cX9_setFault 22 = .ok (.iconst 2, 1) := by decide +kernel
theorem dX9_setFault_23 : decode cX9_setFault 23 = .ok (.goto 4, 3) := by decide +kernel
theorem dX9_setFault_26 : decode cX9_setFault 26 = .ok (.iconst 0, 1) := by decide +kernel
theorem dX9_setFault_27 : decode cX9_setFault 27 = .ok (.invokevirtual 33, 3) := by decide +kernel
theorem dX9_setFault_30 : decode cX9_setFault 30 = .ok (.ifCond .eq 7, 3) := by decide +kernel
theorem dX9_setFault_33 : decode cX9_setFault 33 = .ok (.iconst 0, 1) := by decide +kernel
theorem dX9_setFault_34 : decode cX9_setFault 34 = .ok (.goto 17, 3) := by decide +kernel
theorem dX9_setFault_37 : decode cX9_setFault 37 = .ok (.aload_n 0, 1) := by decide +kernel
theorem dX9_setFault_38 : decode cX9_setFault 38 = .ok (.bipush 57, 2) := by decide +kernel
theorem dX9_setFault_40 : decode cX9_setFault 40 = .ok (.bipush 7, 2) := by decide +kernel
theorem dX9_setFault_42 : decode cX9_setFault 42 = .ok (.iload_n 1, 1) := by decide +kernel
theorem dX9_setFault_43 : decode cX9_setFault 43 = .ok (.imul, 1) := by decide +kernel
theorem dX9_setFault_44 : decode cX9_setFault 44 = .ok (.iadd, 1) := by decide +kernel
theorem dX9_setFault_45 : decode cX9_setFault 45 = .ok (.iconst 5, 1) := by decide +kernel
theorem dX9_setFault_46 : decode cX9_setFault 46 = .ok (.iadd, 1) := by decide +kernel
theorem dX9_setFault_47 : decode cX9_setFault 47 = .ok (.iload_n 2, 1) := by decide +kernel
theorem dX9_setFault_48 : decode cX9_setFault 48 = .ok (.invokevirtual 113, 3) := by decide +kernel
theorem dX9_setFault_51 : decode cX9_setFault 51 = .ok (.ireturn, 1) := by decide +kernel
set_option maxRecDepth 20000 in
theorem ggX9_sensorTold_X9_its : GoodIn wsX9_sensorTold wsX9_its := goodIn_r _ [5, 6, 23, 24, 25, 26, 27, 28, 29] (by decide +kernel) (by decide +kernel)
set_option maxRecDepth 20000 in
theorem gX9_sensorTold_X9_its : GoodIn wsX9_sensorTold (wsV RX9 41 RX9 yX9_its wsX9_its) := goodIn_app (goodIn_of _ (by decide +kernel)) ggX9_sensorTold_X9_its
set_option maxRecDepth 20000 in
theorem ggX9_sensorTold_X9_isExcited : GoodIn wsX9_sensorTold wsX9_isExcited := goodIn_r _ [10, 6, 1, 2, 3, 4, 5, 11, 12, 13, 14, 15, 16, 17, 18, 23, 24, 25, 26, 27, 28, 29] (by decide +kernel) (by decide +kernel)
set_option maxRecDepth 20000 in
theorem gX9_sensorTold_X9_isExcited : GoodIn wsX9_sensorTold (wsV RX9 80 RX9 yX9_isExcited wsX9_isExcited) := goodIn_app (goodIn_of _ (by decide +kernel)) ggX9_sensorTold_X9_isExcited
set_option maxRecDepth 20000 in
theorem ggX9_sensorTold_X9_votes : GoodIn wsX9_sensorTold wsX9_votes := goodIn_r _ [22, 1, 2, 3, 4, 5, 6, 23, 24, 25, 26, 27, 28, 29] (by decide +kernel) (by decide +kernel)
set_option maxRecDepth 20000 in
theorem gX9_sensorTold_X9_votes : GoodIn wsX9_sensorTold (wsV RX9 52 RX9 yX9_votes wsX9_votes) := goodIn_app (goodIn_of _ (by decide +kernel)) ggX9_sensorTold_X9_votes
theorem dX9_sensorTold_0 : decode cX9_sensorTold 0 = .ok (.iload_n 2, 1) := by decide +kernel
theorem dX9_sensorTold_1 : decode cX9_sensorTold 1 = .ok (.bipush 7, 2) := by decide +kernel
theorem dX9_sensorTold_3 : decode cX9_sensorTold 3 = .ok (.if_icmp .ge 12, 3) := by decide +kernel
theorem dX9_sensorTold_6 : decode cX9_sensorTold 6 = .ok (.aload_n 0, 1) := by decide +kernel
theorem dX9_sensorTold_7 : decode cX9_sensorTold 7 = .ok (.iload_n 1, 1) := by decide +kernel
theorem dX9_sensorTold_8 : decode cX9_sensorTold 8 = .ok (.iload_n 2, 1) := by decide +kernel
theorem dX9_sensorTold_9 : decode cX9_sensorTold 9 = .ok (.invokevirtual 41, 3) := by decide +kernel
theorem dX9_sensorTold_12 : decode cX9_sensorTold 12 = .ok (.goto 38, 3) := by decide +kernel
theorem dX9_sensorTold_15 : decode cX9_sensorTold 15 = .ok (.iload_n 2, 1) := by decide +kernel
theorem dX9_sensorTold_16 : decode cX9_sensorTold 16 = .ok (.bipush 7, 2) := by decide +kernel
theorem dX9_sensorTold_18 : decode cX9_sensorTold 18 = .ok (.if_icmp .ne 19, 3) := by decide +kernel
theorem dX9_sensorTold_21 : decode cX9_sensorTold 21 = .ok (.aload_n 0, 1) := by decide +kernel
theorem dX9_sensorTold_22 : decode cX9_sensorTold 22 = .ok (.iload_n 1, 1) := by decide +kernel
theorem dX9_sensorTold_23 : decode cX9_sensorTold 23 = .ok (.invokevirtual 80, 3) := by decide +kernel
theorem dX9_sensorTold_26 : decode cX9_sensorTold 26 = .ok (.ifCond .eq 7, 3) := by decide +kernel
theorem dX9_sensorTold_29 : decode cX9_sensorTold 29 = .ok (.iconst 1, 1) := by decide +kernel
theorem dX9_sensorTold_30 : decode cX9_sensorTold 30 = .ok (.goto 20, 3) := by decide +kernel
theorem dX9_sensorTold_33 : decode cX9_sensorTold 33 = .ok (.iconst 0, 1) := by decide +kernel
theorem dX9_sensorTold_34 : decode cX9_sensorTold 34 = .ok (.goto 16, 3) := by decide +kernel
theorem dX9_sensorTold_37 : decode cX9_sensorTold 37 = .ok (.aload_n 0, 1) := by decide +kernel
theorem dX9_sensorTold_38 : decode cX9_sensorTold 38 = .ok (.iload_n 1, 1) := by decide +kernel
theorem dX9_sensorTold_39 : decode cX9_sensorTold 39 = .ok (.invokevirtual 52, 3) := by decide +kernel
theorem dX9_sensorTold_42 : decode cX9_sensorTold 42 = .ok (.ifCond .eq 7, 3) := by decide +kernel
theorem dX9_sensorTold_45 : decode cX9_sensorTold 45 = .ok (.iconst 1, 1) := by decide +kernel
theorem dX9_sensorTold_46 : decode cX9_sensorTold 46 = .ok (.goto 4, 3) := by decide +kernel
theorem dX9_sensorTold_49 : decode cX9_sensorTold 49 = .ok (.iconst 0, 1) := by decide +kernel
theorem dX9_sensorTold_50 : decode cX9_sensorTold 50 = .ok (.ireturn, 1) := by decide +kernel
set_option maxRecDepth 20000 in
theorem ggX9_sensor_X9_isSensor : GoodIn wsX9_sensor wsX9_isSensor := goodIn_r _ [5, 6, 7, 8, 4, 9, 39, 40, 41, 42, 43, 44, 45] (by decide +kernel) (by decide +kernel)
set_option maxRecDepth 20000 in
theorem gX9_sensor_X9_isSensor : GoodIn wsX9_sensor (wsV RX9 128 RX9 yX9_isSensor wsX9_isSensor) := goodIn_app (goodIn_of _ (by decide +kernel)) ggX9_sensor_X9_isSensor
set_option maxRecDepth 20000 in
theorem ggX9_sensor_X9_within : GoodIn wsX9_sensor wsX9_within := goodIn_r _ [9] (by decide +kernel) (by decide +kernel)
set_option maxRecDepth 20000 in
theorem gX9_sensor_X9_within : GoodIn wsX9_sensor (va_wsS RX9 37 yX9_within wsX9_within) := goodIn_app (goodIn_of _ (by decide +kernel)) ggX9_sensor_X9_within
set_option maxRecDepth 20000 in
theorem ggX9_sensor_X9_refused : GoodIn wsX9_sensor wsX9_refused := goodIn_r _ [13, 14, 39, 40, 41, 42, 43, 44, 45] (by decide +kernel) (by decide +kernel)
set_option maxRecDepth 20000 in
theorem gX9_sensor_X9_refused : GoodIn wsX9_sensor (wsV RX9 33 RX9 yX9_refused wsX9_refused) := goodIn_app (goodIn_of _ (by decide +kernel)) ggX9_sensor_X9_refused
set_option maxRecDepth 20000 in
theorem ggX9_sensor_X9_sensorTold : GoodIn wsX9_sensor wsX9_sensorTold := goodIn_r _ [18, 19, 20, 21, 4, 22, 6, 23, 24, 25, 26, 27, 28, 29, 30, 31, 32, 33, 34, 35, 36, 37, 38, 39, 40, 41, 42, 43, 44, 45] (by decide +kernel) (by decide +kernel)
set_option maxRecDepth 20000 in
theorem gX9_sensor_X9_sensorTold : GoodIn wsX9_sensor (wsV RX9 131 RX9 yX9_sensorTold wsX9_sensorTold) := goodIn_app (goodIn_of _ (by decide +kernel)) ggX9_sensor_X9_sensorTold
theorem dX9_sensor_0 : decode cX9_sensor 0 = .ok (.aload_n 0, 1) := by decide +kernel
theorem dX9_sensor_1 : decode cX9_sensor 1 = .ok (.aload_n 0, 1) := by decide +kernel
theorem dX9_sensor_2 : decode cX9_sensor 2 = .ok (.iload_n 1, 1) := by decide +kernel
theorem dX9_sensor_3 : decode cX9_sensor 3 = .ok (.invokevirtual 128, 3) := by decide +kernel
theorem dX9_sensor_6 : decode cX9_sensor 6 = .ok (.ifCond .ne 7, 3) := by decide +kernel
theorem dX9_sensor_9 : decode cX9_sensor 9 = .ok (.iconst 1, 1) := by decide +kernel
theorem dX9_sensor_10 : decode cX9_sensor 10 = .ok (.goto 18, 3) := by decide +kernel
theorem dX9_sensor_13 : decode cX9_sensor 13 = .ok (.iload_n 2, 1) := by decide +kernel
theorem dX9_sensor_14 : decode cX9_sensor 14 = .ok (.iconst 0, 1) := by decide +kernel
theorem dX9_sensor_15 : decode cX9_sensor 15 = .ok (.bipush 8, 2) := by decide +kernel
theorem dX9_sensor_17 : decode cX9_sensor 17 = .ok (.invokestatic 37, 3) := by decide +kernel
theorem dX9_sensor_20 : decode cX9_sensor 20 = .ok (.ifCond .ne 7, 3) := by decide +kernel
theorem dX9_sensor_23 : decode cX9_sensor 23 = .ok (.iconst 2, 1) := by decide +kernel
theorem dX9_sensor_24 : decode cX9_sensor 24 = .ok (.goto 4, 3) := by decide +kernel
theorem dX9_sensor_27 : decode cX9_sensor 27 = .ok (.iconst 0, 1) := by decide +kernel
theorem dX9_sensor_28 : decode cX9_sensor 28 = .ok (.invokevirtual 33, 3) := by decide +kernel
theorem dX9_sensor_31 : decode cX9_sensor 31 = .ok (.ifCond .eq 7, 3) := by decide +kernel
theorem dX9_sensor_34 : decode cX9_sensor 34 = .ok (.iconst 0, 1) := by decide +kernel
theorem dX9_sensor_35 : decode cX9_sensor 35 = .ok (.goto 9, 3) := by decide +kernel
theorem dX9_sensor_38 : decode cX9_sensor 38 = .ok (.aload_n 0, 1) := by decide +kernel
theorem dX9_sensor_39 : decode cX9_sensor 39 = .ok (.iload_n 1, 1) := by decide +kernel
theorem dX9_sensor_40 : decode cX9_sensor 40 = .ok (.iload_n 2, 1) := by decide +kernel
theorem dX9_sensor_41 : decode cX9_sensor 41 = .ok (.invokevirtual 131, 3) := by decide +kernel
theorem dX9_sensor_44 : decode cX9_sensor 44 = .ok (.ireturn, 1) := by decide +kernel
set_option maxRecDepth 20000 in
theorem ggX9_addRule_X9_within : GoodIn wsX9_addRule wsX9_within := goodIn_r _ [5] (by decide +kernel) (by decide +kernel)
set_option maxRecDepth 20000 in
theorem gX9_addRule_X9_within : GoodIn wsX9_addRule (va_wsS RX9 37 yX9_within wsX9_within) := goodIn_app (goodIn_of _ (by decide +kernel)) ggX9_addRule_X9_within
set_option maxRecDepth 20000 in
theorem ggX9_addRule_X9_isRoom : GoodIn wsX9_addRule wsX9_isRoom := goodIn_r _ [9, 1, 2, 3, 4, 5, 21, 22, 23, 24, 25, 26, 27] (by decide +kernel) (by decide +kernel)
set_option maxRecDepth 20000 in
theorem gX9_addRule_X9_isRoom : GoodIn wsX9_addRule (wsV RX9 119 RX9 yX9_isRoom wsX9_isRoom) := goodIn_app (goodIn_of _ (by decide +kernel)) ggX9_addRule_X9_isRoom
set_option maxRecDepth 20000 in
theorem ggX9_addRule_X9_refused : GoodIn wsX9_addRule wsX9_refused := goodIn_r _ [13, 14, 21, 22, 23, 24, 25, 26, 27] (by decide +kernel) (by decide +kernel)
set_option maxRecDepth 20000 in
theorem gX9_addRule_X9_refused : GoodIn wsX9_addRule (wsV RX9 33 RX9 yX9_refused wsX9_refused) := goodIn_app (goodIn_of _ (by decide +kernel)) ggX9_addRule_X9_refused
set_option maxRecDepth 20000 in
theorem ggX9_addRule_X9_saves : GoodIn wsX9_addRule wsX9_saves := goodIn_r _ [18, 19, 20, 1, 21, 22, 23, 24, 25, 26, 27] (by decide +kernel) (by decide +kernel)
set_option maxRecDepth 20000 in
theorem gX9_addRule_X9_saves : GoodIn wsX9_addRule (wsV RX9 107 RX9 yX9_saves wsX9_saves) := goodIn_app (goodIn_of _ (by decide +kernel)) ggX9_addRule_X9_saves
theorem dX9_addRule_0 : decode cX9_addRule 0 = .ok (.iload_n 1, 1) := by decide +kernel
theorem dX9_addRule_1 : decode cX9_addRule 1 = .ok (.iconst 0, 1) := by decide +kernel
theorem dX9_addRule_2 : decode cX9_addRule 2 = .ok (.iconst 3, 1) := by decide +kernel
theorem dX9_addRule_3 : decode cX9_addRule 3 = .ok (.invokestatic 37, 3) := by decide +kernel
theorem dX9_addRule_6 : decode cX9_addRule 6 = .ok (.ifCond .eq 29, 3) := by decide +kernel
theorem dX9_addRule_9 : decode cX9_addRule 9 = .ok (.iload_n 3, 1) := by decide +kernel
theorem dX9_addRule_10 : decode cX9_addRule 10 = .ok (.iconst 0, 1) := by decide +kernel
theorem dX9_addRule_11 : decode cX9_addRule 11 = .ok (.sipush 9999, 3) := by decide +kernel
theorem dX9_addRule_14 : decode cX9_addRule 14 = .ok (.invokestatic 37, 3) := by decide +kernel
theorem dX9_addRule_17 : decode cX9_addRule 17 = .ok (.ifCond .eq 18, 3) := by decide +kernel
theorem dX9_addRule_20 : decode cX9_addRule 20 = .ok (.iload 4, 2) := by decide +kernel
theorem dX9_addRule_22 : decode cX9_addRule 22 = .ok (.iconst 0, 1) := by decide +kernel
theorem dX9_addRule_23 : decode cX9_addRule 23 = .ok (.bipush 8, 2) := by decide +kernel
theorem dX9_addRule_25 : decode cX9_addRule 25 = .ok (.invokestatic 37, 3) := by decide +kernel
theorem dX9_addRule_28 : decode cX9_addRule 28 = .ok (.ifCond .eq 7, 3) := by decide +kernel
theorem dX9_addRule_31 : decode cX9_addRule 31 = .ok (.iconst 1, 1) := by decide +kernel
theorem dX9_addRule_32 : decode cX9_addRule 32 = .ok (.goto 4, 3) := by decide +kernel
theorem dX9_addRule_35 : decode cX9_addRule 35 = .ok (.iconst 0, 1) := by decide +kernel
theorem dX9_addRule_36 : decode cX9_addRule 36 = .ok (.istore 5, 2) := by decide +kernel
theorem dX9_addRule_38 : decode cX9_addRule 38 = .ok (.aload_n 0, 1) := by decide +kernel
theorem dX9_addRule_39 : decode cX9_addRule 39 = .ok (.aload_n 0, 1) := by decide +kernel
theorem dX9_addRule_40 : decode cX9_addRule 40 = .ok (.iload_n 2, 1) := by decide +kernel
theorem dX9_addRule_41 : decode cX9_addRule 41 = .ok (.invokevirtual 119, 3) := by decide +kernel
theorem dX9_addRule_44 : decode cX9_addRule 44 = .ok (.ifCond .ne 7, 3) := by decide +kernel
theorem dX9_addRule_47 : decode cX9_addRule 47 = .ok (.iconst 1, 1) := by decide +kernel
theorem dX9_addRule_48 : decode cX9_addRule 48 = .ok (.goto 29, 3) := by decide +kernel
theorem dX9_addRule_51 : decode cX9_addRule 51 = .ok (.iload 5, 2) := by decide +kernel
theorem dX9_addRule_53 : decode cX9_addRule 53 = .ok (.ifCond .ne 7, 3) := by decide +kernel
theorem dX9_addRule_56 : decode cX9_addRule 56 = .ok (.iconst 2, 1) := by decide +kernel
theorem dX9_addRule_57 : decode cX9_addRule 57 = .ok (.goto 20, 3) := by decide +kernel
theorem dX9_addRule_60 : decode cX9_addRule 60 = .ok (.aload_n 0, 1) := by decide +kernel
theorem dX9_addRule_61 : decode cX9_addRule 61 = .ok (.getfield 7, 3) := by decide +kernel
theorem dX9_addRule_64 : decode cX9_addRule 64 = .ok (.bipush 11, 2) := by decide +kernel
theorem dX9_addRule_66 : decode cX9_addRule 66 = .ok (.iaload, 1) := by decide +kernel
theorem dX9_addRule_67 : decode cX9_addRule 67 = .ok (.bipush 8, 2) := by decide +kernel
theorem dX9_addRule_69 : decode cX9_addRule 69 = .ok (.if_icmp .ne 7, 3) := by decide +kernel
theorem dX9_addRule_72 : decode cX9_addRule 72 = .ok (.iconst 3, 1) := by decide +kernel
theorem dX9_addRule_73 : decode cX9_addRule 73 = .ok (.goto 4, 3) := by decide +kernel
theorem dX9_addRule_76 : decode cX9_addRule 76 = .ok (.iconst 0, 1) := by decide +kernel
theorem dX9_addRule_77 : decode cX9_addRule 77 = .ok (.invokevirtual 33, 3) := by decide +kernel
theorem dX9_addRule_80 : decode cX9_addRule 80 = .ok (.ifCond .eq 5, 3) := by decide +kernel
theorem dX9_addRule_83 : decode cX9_addRule 83 = .ok (.iconst 0, 1) := by decide +kernel
theorem dX9_addRule_84 : decode cX9_addRule 84 = .ok (.ireturn, 1) := by decide +kernel
theorem dX9_addRule_85 : decode cX9_addRule 85 = .ok (.aload_n 0, 1) := by decide +kernel
theorem dX9_addRule_86 : decode cX9_addRule 86 = .ok (.invokevirtual 107, 3) := by decide +kernel
theorem dX9_addRule_89 : decode cX9_addRule 89 = .ok (.bipush 113, 2) := by decide +kernel
theorem dX9_addRule_91 : decode cX9_addRule 91 = .ok (.iconst 4, 1) := by decide +kernel
theorem dX9_addRule_92 : decode cX9_addRule 92 = .ok (.aload_n 0, 1) := by decide +kernel
theorem dX9_addRule_93 : decode cX9_addRule 93 = .ok (.getfield 7, 3) := by decide +kernel
theorem dX9_addRule_96 : decode cX9_addRule 96 = .ok (.bipush 11, 2) := by decide +kernel
theorem dX9_addRule_98 : decode cX9_addRule 98 = .ok (.iaload, 1) := by decide +kernel
theorem dX9_addRule_99 : decode cX9_addRule 99 = .ok (.imul, 1) := by decide +kernel
theorem dX9_addRule_100 : decode cX9_addRule 100 = .ok (.iadd, 1) := by decide +kernel
theorem dX9_addRule_101 : decode cX9_addRule 101 = .ok (.istore 6, 2) := by decide +kernel
theorem dX9_addRule_103 : decode cX9_addRule 103 = .ok (.aload_n 0, 1) := by decide +kernel
theorem dX9_addRule_104 : decode cX9_addRule 104 = .ok (.getfield 7, 3) := by decide +kernel
theorem dX9_addRule_107 : decode cX9_addRule 107 = .ok (.iload 6, 2) := by decide +kernel
theorem dX9_addRule_109 : decode cX9_addRule 109 = .ok (.iload_n 1, 1) := by decide +kernel
theorem dX9_addRule_110 : decode cX9_addRule 110 = .ok (.iastore, 1) := by decide +kernel
theorem dX9_addRule_111 : decode cX9_addRule 111 = .ok (.aload_n 0, 1) := by decide +kernel
theorem dX9_addRule_112 : decode cX9_addRule 112 = .ok (.getfield 7, 3) := by decide +kernel
theorem dX9_addRule_115 : decode cX9_addRule 115 = .ok (.iload 6, 2) := by decide +kernel
theorem dX9_addRule_117 : decode cX9_addRule 117 = .ok (.iconst 1, 1) := by decide +kernel
theorem dX9_addRule_118 : decode cX9_addRule 118 = .ok (.iadd, 1) := by decide +kernel
theorem dX9_addRule_119 : decode cX9_addRule 119 = .ok (.iload_n 2, 1) := by decide +kernel
theorem dX9_addRule_120 : decode cX9_addRule 120 = .ok (.iastore, 1) := by decide +kernel
theorem dX9_addRule_121 : decode cX9_addRule 121 = .ok (.aload_n 0, 1) := by decide +kernel
theorem dX9_addRule_122 : decode cX9_addRule 122 = .ok (.getfield 7, 3) := by decide +kernel
theorem dX9_addRule_125 : decode cX9_addRule 125 = .ok (.iload 6, 2) := by decide +kernel
theorem dX9_addRule_127 : decode cX9_addRule 127 = .ok (.iconst 2, 1) := by decide +kernel
theorem dX9_addRule_128 : decode cX9_addRule 128 = .ok (.iadd, 1) := by decide +kernel
theorem dX9_addRule_129 : decode cX9_addRule 129 = .ok (.iload_n 3, 1) := by decide +kernel
theorem dX9_addRule_130 : decode cX9_addRule 130 = .ok (.iastore, 1) := by decide +kernel
theorem dX9_addRule_131 : decode cX9_addRule 131 = .ok (.aload_n 0, 1) := by decide +kernel
theorem dX9_addRule_132 : decode cX9_addRule 132 = .ok (.getfield 7, 3) := by decide +kernel
theorem dX9_addRule_135 : decode cX9_addRule 135 = .ok (.iload 6, 2) := by decide +kernel
theorem dX9_addRule_137 : decode cX9_addRule 137 = .ok (.iconst 3, 1) := by decide +kernel
theorem dX9_addRule_138 : decode cX9_addRule 138 = .ok (.iadd, 1) := by decide +kernel
theorem dX9_addRule_139 : decode cX9_addRule 139 = .ok (.iload 4, 2) := by decide +kernel
theorem dX9_addRule_141 : decode cX9_addRule 141 = .ok (.iastore, 1) := by decide +kernel
theorem dX9_addRule_142 : decode cX9_addRule 142 = .ok (.aload_n 0, 1) := by decide +kernel
theorem dX9_addRule_143 : decode cX9_addRule 143 = .ok (.getfield 7, 3) := by decide +kernel
theorem dX9_addRule_146 : decode cX9_addRule 146 = .ok (.bipush 11, 2) := by decide +kernel
theorem dX9_addRule_148 : decode cX9_addRule 148 = .ok (.dup2, 1) := by decide +kernel
theorem dX9_addRule_149 : decode cX9_addRule 149 = .ok (.iaload, 1) := by decide +kernel
theorem dX9_addRule_150 : decode cX9_addRule 150 = .ok (.iconst 1, 1) := by decide +kernel
theorem dX9_addRule_151 : decode cX9_addRule 151 = .ok (.iadd, 1) := by decide +kernel
theorem dX9_addRule_152 : decode cX9_addRule 152 = .ok (.iastore, 1) := by decide +kernel
theorem dX9_addRule_153 : decode cX9_addRule 153 = .ok (.aload_n 0, 1) := by decide +kernel
theorem dX9_addRule_154 : decode cX9_addRule 154 = .ok (.getfield 7, 3) := by decide +kernel
theorem dX9_addRule_157 : decode cX9_addRule 157 = .ok (.bipush 11, 2) := by decide +kernel
theorem dX9_addRule_159 : decode cX9_addRule 159 = .ok (.iaload, 1) := by decide +kernel
theorem dX9_addRule_160 : decode cX9_addRule 160 = .ok (.iconst 1, 1) := by decide +kernel
theorem dX9_addRule_161 : decode cX9_addRule 161 = .ok (.isub, 1) := by decide +kernel
theorem dX9_addRule_162 : decode cX9_addRule 162 = .ok (.ireturn, 1) := by decide +kernel
set_option maxRecDepth 20000 in
theorem ggX9_removeRule_X9_within : GoodIn wsX9_removeRule wsX9_within := goodIn_r _ [5] (by decide +kernel) (by decide +kernel)
set_option maxRecDepth 20000 in
theorem gX9_removeRule_X9_within : GoodIn wsX9_removeRule (va_wsS RX9 37 yX9_within wsX9_within) := goodIn_app (goodIn_of _ (by decide +kernel)) ggX9_removeRule_X9_within
set_option maxRecDepth 20000 in
theorem ggX9_removeRule_X9_refused : GoodIn wsX9_removeRule wsX9_refused := goodIn_r _ [9, 10, 17, 18, 19, 20, 21, 22, 23] (by decide +kernel) (by decide +kernel)
set_option maxRecDepth 20000 in
theorem gX9_removeRule_X9_refused : GoodIn wsX9_removeRule (wsV RX9 33 RX9 yX9_refused wsX9_refused) := goodIn_app (goodIn_of _ (by decide +kernel)) ggX9_removeRule_X9_refused
set_option maxRecDepth 20000 in
theorem ggX9_removeRule_X9_saves : GoodIn wsX9_removeRule wsX9_saves := goodIn_r _ [14, 15, 16, 1, 17, 18, 19, 20, 21, 22, 23] (by decide +kernel) (by decide +kernel)
set_option maxRecDepth 20000 in
theorem gX9_removeRule_X9_saves : GoodIn wsX9_removeRule (wsV RX9 107 RX9 yX9_saves wsX9_saves) := goodIn_app (goodIn_of _ (by decide +kernel)) ggX9_removeRule_X9_saves
theorem dX9_removeRule_0 : decode cX9_removeRule 0 = .ok (.aload_n 0, 1) := by decide +kernel
theorem dX9_removeRule_1 : decode cX9_removeRule 1 = .ok (.iload_n 1, 1) := by decide +kernel
theorem dX9_removeRule_2 : decode cX9_removeRule 2 = .ok (.iconst 0, 1) := by decide +kernel
theorem dX9_removeRule_3 : decode cX9_removeRule 3 = .ok (.aload_n 0, 1) := by decide +kernel
theorem dX9_removeRule_4 : decode cX9_removeRule 4 = .ok (.getfield 7, 3) := by decide +kernel
theorem dX9_removeRule_7 : decode cX9_removeRule 7 = .ok (.bipush 11, 2) := by decide +kernel
theorem dX9_removeRule_9 : decode cX9_removeRule 9 = .ok (.iaload, 1) := by decide +kernel
theorem dX9_removeRule_10 : decode cX9_removeRule 10 = .ok (.iconst 1, 1) := by decide +kernel
theorem dX9_removeRule_11 : decode cX9_removeRule 11 = .ok (.isub, 1) := by decide +kernel
theorem dX9_removeRule_12 : decode cX9_removeRule 12 = .ok (.invokestatic 37, 3) := by decide +kernel
theorem dX9_removeRule_15 : decode cX9_removeRule 15 = .ok (.ifCond .eq 7, 3) := by decide +kernel
theorem dX9_removeRule_18 : decode cX9_removeRule 18 = .ok (.iconst 0, 1) := by decide +kernel
theorem dX9_removeRule_19 : decode cX9_removeRule 19 = .ok (.goto 4, 3) := by decide +kernel
theorem dX9_removeRule_22 : decode cX9_removeRule 22 = .ok (.iconst 1, 1) := by decide +kernel
theorem dX9_removeRule_23 : decode cX9_removeRule 23 = .ok (.invokevirtual 33, 3) := by decide +kernel
theorem dX9_removeRule_26 : decode cX9_removeRule 26 = .ok (.ifCond .eq 5, 3) := by decide +kernel
theorem dX9_removeRule_29 : decode cX9_removeRule 29 = .ok (.iconst 0, 1) := by decide +kernel
theorem dX9_removeRule_30 : decode cX9_removeRule 30 = .ok (.ireturn, 1) := by decide +kernel
theorem dX9_removeRule_31 : decode cX9_removeRule 31 = .ok (.aload_n 0, 1) := by decide +kernel
theorem dX9_removeRule_32 : decode cX9_removeRule 32 = .ok (.invokevirtual 107, 3) := by decide +kernel
theorem dX9_removeRule_35 : decode cX9_removeRule 35 = .ok (.aload_n 0, 1) := by decide +kernel
theorem dX9_removeRule_36 : decode cX9_removeRule 36 = .ok (.getfield 7, 3) := by decide +kernel
theorem dX9_removeRule_39 : decode cX9_removeRule 39 = .ok (.bipush 11, 2) := by decide +kernel
theorem dX9_removeRule_41 : decode cX9_removeRule 41 = .ok (.dup2, 1) := by decide +kernel
theorem dX9_removeRule_42 : decode cX9_removeRule 42 = .ok (.iaload, 1) := by decide +kernel
theorem dX9_removeRule_43 : decode cX9_removeRule 43 = .ok (.iconst 1, 1) := by decide +kernel
theorem dX9_removeRule_44 : decode cX9_removeRule 44 = .ok (.isub, 1) := by decide +kernel
theorem dX9_removeRule_45 : decode cX9_removeRule 45 = .ok (.iastore, 1) := by decide +kernel
theorem dX9_removeRule_46 : decode cX9_removeRule 46 = .ok (.bipush 113, 2) := by decide +kernel
theorem dX9_removeRule_48 : decode cX9_removeRule 48 = .ok (.iconst 4, 1) := by decide +kernel
theorem dX9_removeRule_49 : decode cX9_removeRule 49 = .ok (.iload_n 1, 1) := by decide +kernel
theorem dX9_removeRule_50 : decode cX9_removeRule 50 = .ok (.imul, 1) := by decide +kernel
theorem dX9_removeRule_51 : decode cX9_removeRule 51 = .ok (.iadd, 1) := by decide +kernel
theorem dX9_removeRule_52 : decode cX9_removeRule 52 = .ok (.istore_n 2, 1) := by decide +kernel
theorem dX9_removeRule_53 : decode cX9_removeRule 53 = .ok (.iload_n 2, 1) := by decide +kernel
theorem dX9_removeRule_54 : decode cX9_removeRule 54 = .ok (.bipush 113, 2) := by decide +kernel
theorem dX9_removeRule_56 : decode cX9_removeRule 56 = .ok (.iconst 4, 1) := by decide +kernel
theorem dX9_removeRule_57 : decode cX9_removeRule 57 = .ok (.aload_n 0, 1) := by decide +kernel
theorem dX9_removeRule_58 : decode cX9_removeRule 58 = .ok (.getfield 7, 3) := by decide +kernel
theorem dX9_removeRule_61 : decode cX9_removeRule 61 = .ok (.bipush 11, 2) := by decide +kernel
theorem dX9_removeRule_63 : decode cX9_removeRule 63 = .ok (.iaload, 1) := by decide +kernel
theorem dX9_removeRule_64 : decode cX9_removeRule 64 = .ok (.imul, 1) := by decide +kernel
theorem dX9_removeRule_65 : decode cX9_removeRule 65 = .ok (.iadd, 1) := by decide +kernel
theorem dX9_removeRule_66 : decode cX9_removeRule 66 = .ok (.if_icmp .ge 23, 3) := by decide +kernel
theorem dX9_removeRule_69 : decode cX9_removeRule 69 = .ok (.aload_n 0, 1) := by decide +kernel
theorem dX9_removeRule_70 : decode cX9_removeRule 70 = .ok (.getfield 7, 3) := by decide +kernel
theorem dX9_removeRule_73 : decode cX9_removeRule 73 = .ok (.iload_n 2, 1) := by decide +kernel
theorem dX9_removeRule_74 : decode cX9_removeRule 74 = .ok (.aload_n 0, 1) := by decide +kernel
theorem dX9_removeRule_75 : decode cX9_removeRule 75 = .ok (.getfield 7, 3) := by decide +kernel
theorem dX9_removeRule_78 : decode cX9_removeRule 78 = .ok (.iload_n 2, 1) := by decide +kernel
theorem dX9_removeRule_79 : decode cX9_removeRule 79 = .ok (.iconst 4, 1) := by decide +kernel
theorem dX9_removeRule_80 : decode cX9_removeRule 80 = .ok (.iadd, 1) := by decide +kernel
theorem dX9_removeRule_81 : decode cX9_removeRule 81 = .ok (.iaload, 1) := by decide +kernel
theorem dX9_removeRule_82 : decode cX9_removeRule 82 = .ok (.iastore, 1) := by decide +kernel
theorem dX9_removeRule_83 : decode cX9_removeRule 83 = .ok (.iinc 2 1, 3) := by decide +kernel
theorem dX9_removeRule_86 : decode cX9_removeRule 86 = .ok (.goto (-33), 3) := by decide +kernel
theorem dX9_removeRule_89 : decode cX9_removeRule 89 = .ok (.aload_n 0, 1) := by decide +kernel
theorem dX9_removeRule_90 : decode cX9_removeRule 90 = .ok (.getfield 7, 3) := by decide +kernel
theorem dX9_removeRule_93 : decode cX9_removeRule 93 = .ok (.bipush 11, 2) := by decide +kernel
theorem dX9_removeRule_95 : decode cX9_removeRule 95 = .ok (.iaload, 1) := by decide +kernel
theorem dX9_removeRule_96 : decode cX9_removeRule 96 = .ok (.ireturn, 1) := by decide +kernel
set_option maxRecDepth 20000 in
theorem ggX9_applying_X9_firstRule : GoodIn wsX9_applying wsX9_firstRule := goodIn_r _ [6, 7, 8, 9, 10, 5, 11, 12, 13, 14, 15, 16, 17, 18, 19, 20, 21, 22, 23, 24, 25, 26, 27, 28, 29, 30] (by decide +kernel) (by decide +kernel)
set_option maxRecDepth 20000 in
theorem gX9_applying_X9_firstRule : GoodIn wsX9_applying (wsV RX9 86 RX9 yX9_firstRule wsX9_firstRule) := goodIn_app (goodIn_of _ (by decide +kernel)) ggX9_applying_X9_firstRule
theorem dX9_applying_0 : decode cX9_applying 0 = .ok (.aload_n 0, 1) := by decide +kernel
theorem dX9_applying_1 : decode cX9_applying 1 = .ok (.iconst 0, 1) := by decide +kernel
theorem dX9_applying_2 : decode cX9_applying 2 = .ok (.putfield 26, 3) := by decide +kernel
theorem dX9_applying_5 : decode cX9_applying 5 = .ok (.aload_n 0, 1) := by decide +kernel
theorem dX9_applying_6 : decode cX9_applying 6 = .ok (.invokevirtual 86, 3) := by decide +kernel
theorem dX9_applying_9 : decode cX9_applying 9 = .ok (.ireturn, 1) := by decide +kernel
set_option maxRecDepth 20000 in
theorem ggX9_isEvent_X9_isRoom : GoodIn wsX9_isEvent wsX9_isRoom := goodIn_r _ [6, 1, 7, 8, 5, 9, 14, 15, 16, 17, 18, 19, 20] (by decide +kernel) (by decide +kernel)
set_option maxRecDepth 20000 in
theorem gX9_isEvent_X9_isRoom : GoodIn wsX9_isEvent (wsV RX9 119 RX9 yX9_isRoom wsX9_isRoom) := goodIn_app (goodIn_of _ (by decide +kernel)) ggX9_isEvent_X9_isRoom
set_option maxRecDepth 20000 in
theorem ggX9_isEvent_X9_within : GoodIn wsX9_isEvent wsX9_within := goodIn_r _ [9] (by decide +kernel) (by decide +kernel)
set_option maxRecDepth 20000 in
theorem gX9_isEvent_X9_within : GoodIn wsX9_isEvent (va_wsS RX9 37 yX9_within wsX9_within) := goodIn_app (goodIn_of _ (by decide +kernel)) ggX9_isEvent_X9_within
set_option maxRecDepth 20000 in
theorem ggX9_isEvent_X9_isSensor : GoodIn wsX9_isEvent wsX9_isSensor := goodIn_r _ [13, 1, 7, 8, 5, 9, 14, 15, 16, 17, 18, 19, 20] (by decide +kernel) (by decide +kernel)
set_option maxRecDepth 20000 in
theorem gX9_isEvent_X9_isSensor : GoodIn wsX9_isEvent (wsV RX9 128 RX9 yX9_isSensor wsX9_isSensor) := goodIn_app (goodIn_of _ (by decide +kernel)) ggX9_isEvent_X9_isSensor
theorem dX9_isEvent_0 : decode cX9_isEvent 0 = .ok (.iload_n 1, 1) := by decide +kernel
theorem dX9_isEvent_1 : decode cX9_isEvent 1 = .ok (.aload_n 0, 1) := by decide +kernel
theorem dX9_isEvent_2 : decode cX9_isEvent 2 = .ok (.getfield 7, 3) := by decide +kernel
theorem dX9_isEvent_5 : decode cX9_isEvent 5 = .ok (.bipush 7, 2) := by decide +kernel
theorem dX9_isEvent_7 : decode cX9_isEvent 7 = .ok (.iaload, 1) := by decide +kernel
theorem dX9_isEvent_8 : decode cX9_isEvent 8 = .ok (.if_icmp .le 18, 3) := by decide +kernel
theorem dX9_isEvent_11 : decode cX9_isEvent 11 = .ok (.iload_n 1, 1) := by decide +kernel
theorem dX9_isEvent_12 : decode cX9_isEvent 12 = .ok (.aload_n 0, 1) := by decide +kernel
theorem dX9_isEvent_13 : decode cX9_isEvent 13 = .ok (.getfield 7, 3) := by decide +kernel
theorem dX9_isEvent_16 : decode cX9_isEvent 16 = .ok (.bipush 7, 2) := by decide +kernel
theorem dX9_isEvent_18 : decode cX9_isEvent 18 = .ok (.iaload, 1) := by decide +kernel
theorem dX9_isEvent_19 : decode cX9_isEvent 19 = .ok (.sipush 999, 3) := by decide +kernel
theorem dX9_isEvent_22 : decode cX9_isEvent 22 = .ok (.iadd, 1) := by decide +kernel
theorem dX9_isEvent_23 : decode cX9_isEvent 23 = .ok (.if_icmp .le 5, 3) := by decide +kernel
theorem dX9_isEvent_26 : decode cX9_isEvent 26 = .ok (.iconst 0, 1) := by decide +kernel
theorem dX9_isEvent_27 : decode cX9_isEvent 27 = .ok (.ireturn, 1) := by decide +kernel
theorem dX9_isEvent_28 : decode cX9_isEvent 28 = .ok (.iload_n 2, 1) := by decide +kernel
theorem dX9_isEvent_29 : decode cX9_isEvent 29 = .ok (.tableswitch 153 0 4 #[35, 71, 93, 114, 138], 35) := by decide +kernel
theorem dX9_isEvent_64 : decode cX9_isEvent 64 = .ok (.aload_n 0, 1) := by decide +kernel
theorem dX9_isEvent_65 : decode cX9_isEvent 65 = .ok (.iload_n 3, 1) := by decide +kernel
theorem dX9_isEvent_66 : decode cX9_isEvent 66 = .ok (.invokevirtual 119, 3) := by decide +kernel
theorem dX9_isEvent_69 : decode cX9_isEvent 69 = .ok (.ifCond .eq 29, 3) := by decide +kernel
theorem dX9_isEvent_72 : decode cX9_isEvent 72 = .ok (.iload 4, 2) := by decide +kernel
theorem dX9_isEvent_74 : decode cX9_isEvent 74 = .ok (.iconst 0, 1) := by decide +kernel
theorem dX9_isEvent_75 : decode cX9_isEvent 75 = .ok (.aload_n 0, 1) := by decide +kernel
theorem dX9_isEvent_76 : decode cX9_isEvent 76 = .ok (.getfield 7, 3) := by decide +kernel
theorem dX9_isEvent_79 : decode cX9_isEvent 79 = .ok (.bipush 6, 2) := by decide +kernel
theorem dX9_isEvent_81 : decode cX9_isEvent 81 = .ok (.iaload, 1) := by decide +kernel
theorem dX9_isEvent_82 : decode cX9_isEvent 82 = .ok (.invokestatic 37, 3) := by decide +kernel
theorem dX9_isEvent_85 : decode cX9_isEvent 85 = .ok (.ifCond .eq 13, 3) := by decide +kernel
theorem dX9_isEvent_88 : decode cX9_isEvent 88 = .ok (.iload_n 3, 1) := by decide +kernel
theorem dX9_isEvent_89 : decode cX9_isEvent 89 = .ok (.iload 4, 2) := by decide +kernel
theorem dX9_isEvent_91 : decode cX9_isEvent 91 = .ok (.if_icmp .eq 7, 3) := by decide +kernel
theorem dX9_isEvent_94 : decode cX9_isEvent 94 = .ok (.iconst 1, 1) := by decide +kernel
theorem dX9_isEvent_95 : decode cX9_isEvent 95 = .ok (.goto 4, 3) := by decide +kernel
theorem dX9_isEvent_98 : decode cX9_isEvent 98 = .ok (.iconst 0, 1) := by decide +kernel
theorem dX9_isEvent_99 : decode cX9_isEvent 99 = .ok (.ireturn, 1) := by decide +kernel
theorem dX9_isEvent_100 : decode cX9_isEvent 100 = .ok (.iload_n 3, 1) := by decide +kernel
theorem dX9_isEvent_101 : decode cX9_isEvent 101 = .ok (.iconst 1, 1) := by decide +kernel
theorem dX9_isEvent_102 : decode cX9_isEvent 102 = .ok (.sipush 200, 3) := by decide +kernel
theorem dX9_isEvent_105 : decode cX9_isEvent 105 = .ok (.invokestatic 37, 3) := by decide +kernel
theorem dX9_isEvent_108 : decode cX9_isEvent 108 = .ok (.ifCond .eq 12, 3) := by decide +kernel
theorem dX9_isEvent_111 : decode cX9_isEvent 111 = .ok (.iload 4, 2) := by decide +kernel
theorem dX9_isEvent_113 : decode cX9_isEvent 113 = .ok (.ifCond .ne 7, 3) := by decide +kernel
theorem dX9_isEvent_116 : decode cX9_isEvent 116 = .ok (.iconst 1, 1) := by decide +kernel
theorem dX9_isEvent_117 : decode cX9_isEvent 117 = .ok (.goto 4, 3) := by decide +kernel
theorem dX9_isEvent_120 : decode cX9_isEvent 120 = .ok (.iconst 0, 1) := by decide +kernel
theorem dX9_isEvent_121 : decode cX9_isEvent 121 = .ok (.ireturn, 1) := by decide +kernel
theorem dX9_isEvent_122 : decode cX9_isEvent 122 = .ok (.iload_n 3, 1) := by decide +kernel
theorem dX9_isEvent_123 : decode cX9_isEvent 123 = .ok (.iconst 0, 1) := by decide +kernel
theorem dX9_isEvent_124 : decode cX9_isEvent 124 = .ok (.bipush 60, 2) := by decide +kernel
theorem dX9_isEvent_126 : decode cX9_isEvent 126 = .ok (.invokestatic 37, 3) := by decide +kernel
theorem dX9_isEvent_129 : decode cX9_isEvent 129 = .ok (.ifCond .eq 12, 3) := by decide +kernel
theorem dX9_isEvent_132 : decode cX9_isEvent 132 = .ok (.iload 4, 2) := by decide +kernel
theorem dX9_isEvent_134 : decode cX9_isEvent 134 = .ok (.ifCond .ne 7, 3) := by decide +kernel
theorem dX9_isEvent_137 : decode cX9_isEvent 137 = .ok (.iconst 1, 1) := by decide +kernel
theorem dX9_isEvent_138 : decode cX9_isEvent 138 = .ok (.goto 4, 3) := by decide +kernel
theorem dX9_isEvent_141 : decode cX9_isEvent 141 = .ok (.iconst 0, 1) := by decide +kernel
theorem dX9_isEvent_142 : decode cX9_isEvent 142 = .ok (.ireturn, 1) := by decide +kernel
theorem dX9_isEvent_143 : decode cX9_isEvent 143 = .ok (.aload_n 0, 1) := by decide +kernel
theorem dX9_isEvent_144 : decode cX9_isEvent 144 = .ok (.iload_n 3, 1) := by decide +kernel
theorem dX9_isEvent_145 : decode cX9_isEvent 145 = .ok (.invokevirtual 128, 3) := by decide +kernel
theorem dX9_isEvent_148 : decode cX9_isEvent 148 = .ok (.ifCond .eq 17, 3) := by decide +kernel
theorem dX9_isEvent_151 : decode cX9_isEvent 151 = .ok (.iload 4, 2) := by decide +kernel
theorem dX9_isEvent_153 : decode cX9_isEvent 153 = .ok (.iconst 0, 1) := by decide +kernel
theorem dX9_isEvent_154 : decode cX9_isEvent 154 = .ok (.iconst 2, 1) := by decide +kernel
theorem dX9_isEvent_155 : decode cX9_isEvent 155 = .ok (.invokestatic 37, 3) := by decide +kernel
theorem dX9_isEvent_158 : decode cX9_isEvent 158 = .ok (.ifCond .eq 7, 3) := by decide +kernel
theorem dX9_isEvent_161 : decode cX9_isEvent 161 = .ok (.iconst 1, 1) := by decide +kernel
theorem dX9_isEvent_162 : decode cX9_isEvent 162 = .ok (.goto 4, 3) := by decide +kernel
theorem dX9_isEvent_165 : decode cX9_isEvent 165 = .ok (.iconst 0, 1) := by decide +kernel
theorem dX9_isEvent_166 : decode cX9_isEvent 166 = .ok (.ireturn, 1) := by decide +kernel
theorem dX9_isEvent_167 : decode cX9_isEvent 167 = .ok (.iload_n 3, 1) := by decide +kernel
theorem dX9_isEvent_168 : decode cX9_isEvent 168 = .ok (.ifCond .ne 12, 3) := by decide +kernel
theorem dX9_isEvent_171 : decode cX9_isEvent 171 = .ok (.iload 4, 2) := by decide +kernel
theorem dX9_isEvent_173 : decode cX9_isEvent 173 = .ok (.ifCond .ne 7, 3) := by decide +kernel
theorem dX9_isEvent_176 : decode cX9_isEvent 176 = .ok (.iconst 1, 1) := by decide +kernel
theorem dX9_isEvent_177 : decode cX9_isEvent 177 = .ok (.goto 4, 3) := by decide +kernel
theorem dX9_isEvent_180 : decode cX9_isEvent 180 = .ok (.iconst 0, 1) := by decide +kernel
theorem dX9_isEvent_181 : decode cX9_isEvent 181 = .ok (.ireturn, 1) := by decide +kernel
theorem dX9_isEvent_182 : decode cX9_isEvent 182 = .ok (.iconst 0, 1) := by decide +kernel
theorem dX9_isEvent_183 : decode cX9_isEvent 183 = .ok (.ireturn, 1) := by decide +kernel
set_option maxRecDepth 20000 in
theorem ggX9_addEvent_X9_isEvent : GoodIn wsX9_addEvent wsX9_isEvent := goodIn_r _ [6, 1, 7, 8, 9, 5, 10, 11, 12, 13, 14, 15, 16, 17, 29, 30, 31, 32, 33, 34, 35] (by decide +kernel) (by decide +kernel)
set_option maxRecDepth 20000 in
theorem gX9_addEvent_X9_isEvent : GoodIn wsX9_addEvent (wsV RX9 134 RX9 yX9_isEvent wsX9_isEvent) := goodIn_app (goodIn_of _ (by decide +kernel)) ggX9_addEvent_X9_isEvent
set_option maxRecDepth 20000 in
theorem ggX9_addEvent_X9_refused : GoodIn wsX9_addEvent wsX9_refused := goodIn_r _ [21, 22, 29, 30, 31, 32, 33, 34, 35] (by decide +kernel) (by decide +kernel)
set_option maxRecDepth 20000 in
theorem gX9_addEvent_X9_refused : GoodIn wsX9_addEvent (wsV RX9 33 RX9 yX9_refused wsX9_refused) := goodIn_app (goodIn_of _ (by decide +kernel)) ggX9_addEvent_X9_refused
set_option maxRecDepth 20000 in
theorem ggX9_addEvent_X9_saves : GoodIn wsX9_addEvent wsX9_saves := goodIn_r _ [26, 27, 28, 1, 29, 30, 31, 32, 33, 34, 35] (by decide +kernel) (by decide +kernel)
set_option maxRecDepth 20000 in
theorem gX9_addEvent_X9_saves : GoodIn wsX9_addEvent (wsV RX9 107 RX9 yX9_saves wsX9_saves) := goodIn_app (goodIn_of _ (by decide +kernel)) ggX9_addEvent_X9_saves
theorem dX9_addEvent_0 : decode cX9_addEvent 0 = .ok (.aload_n 0, 1) := by decide +kernel
theorem dX9_addEvent_1 : decode cX9_addEvent 1 = .ok (.aload_n 0, 1) := by decide +kernel
theorem dX9_addEvent_2 : decode cX9_addEvent 2 = .ok (.iload_n 1, 1) := by decide +kernel
theorem dX9_addEvent_3 : decode cX9_addEvent 3 = .ok (.iload_n 2, 1) := by decide +kernel
theorem dX9_addEvent_4 : decode cX9_addEvent 4 = .ok (.iload_n 3, 1) := by decide +kernel
theorem dX9_addEvent_5 : decode cX9_addEvent 5 = .ok (.iload 4, 2) := by decide +kernel
theorem dX9_addEvent_7 : decode cX9_addEvent 7 = .ok (.invokevirtual 134, 3) := by decide +kernel
theorem dX9_addEvent_10 : decode cX9_addEvent 10 = .ok (.ifCond .ne 7, 3) := by decide +kernel
theorem dX9_addEvent_13 : decode cX9_addEvent 13 = .ok (.iconst 1, 1) := by decide +kernel
theorem dX9_addEvent_14 : decode cX9_addEvent 14 = .ok (.goto 20, 3) := by decide +kernel
theorem dX9_addEvent_17 : decode cX9_addEvent 17 = .ok (.aload_n 0, 1) := by decide +kernel
theorem dX9_addEvent_18 : decode cX9_addEvent 18 = .ok (.getfield 7, 3) := by decide +kernel
theorem dX9_addEvent_21 : decode cX9_addEvent 21 = .ok (.bipush 12, 2) := by decide +kernel
theorem dX9_addEvent_23 : decode cX9_addEvent 23 = .ok (.iaload, 1) := by decide +kernel
theorem dX9_addEvent_24 : decode cX9_addEvent 24 = .ok (.bipush 20, 2) := by decide +kernel
theorem dX9_addEvent_26 : decode cX9_addEvent 26 = .ok (.if_icmp .ne 7, 3) := by decide +kernel
theorem dX9_addEvent_29 : decode cX9_addEvent 29 = .ok (.iconst 2, 1) := by decide +kernel
theorem dX9_addEvent_30 : decode cX9_addEvent 30 = .ok (.goto 4, 3) := by decide +kernel
theorem dX9_addEvent_33 : decode cX9_addEvent 33 = .ok (.iconst 0, 1) := by decide +kernel
theorem dX9_addEvent_34 : decode cX9_addEvent 34 = .ok (.invokevirtual 33, 3) := by decide +kernel
theorem dX9_addEvent_37 : decode cX9_addEvent 37 = .ok (.ifCond .eq 5, 3) := by decide +kernel
theorem dX9_addEvent_40 : decode cX9_addEvent 40 = .ok (.iconst 0, 1) := by decide +kernel
theorem dX9_addEvent_41 : decode cX9_addEvent 41 = .ok (.ireturn, 1) := by decide +kernel
theorem dX9_addEvent_42 : decode cX9_addEvent 42 = .ok (.aload_n 0, 1) := by decide +kernel
theorem dX9_addEvent_43 : decode cX9_addEvent 43 = .ok (.invokevirtual 107, 3) := by decide +kernel
theorem dX9_addEvent_46 : decode cX9_addEvent 46 = .ok (.aload_n 0, 1) := by decide +kernel
theorem dX9_addEvent_47 : decode cX9_addEvent 47 = .ok (.getfield 7, 3) := by decide +kernel
theorem dX9_addEvent_50 : decode cX9_addEvent 50 = .ok (.bipush 12, 2) := by decide +kernel
theorem dX9_addEvent_52 : decode cX9_addEvent 52 = .ok (.iaload, 1) := by decide +kernel
theorem dX9_addEvent_53 : decode cX9_addEvent 53 = .ok (.istore 5, 2) := by decide +kernel
theorem dX9_addEvent_55 : decode cX9_addEvent 55 = .ok (.iload 5, 2) := by decide +kernel
theorem dX9_addEvent_57 : decode cX9_addEvent 57 = .ok (.ifCond .le 77, 3) := by decide +kernel
theorem dX9_addEvent_60 : decode cX9_addEvent 60 = .ok (.aload_n 0, 1) := by decide +kernel
theorem dX9_addEvent_61 : decode cX9_addEvent 61 = .ok (.getfield 7, 3) := by decide +kernel
theorem dX9_addEvent_64 : decode cX9_addEvent 64 = .ok (.sipush 145, 3) := by decide +kernel
theorem dX9_addEvent_67 : decode cX9_addEvent 67 = .ok (.iconst 4, 1) := by decide +kernel
theorem dX9_addEvent_68 : decode cX9_addEvent 68 = .ok (.iload 5, 2) := by decide +kernel
theorem dX9_addEvent_70 : decode cX9_addEvent 70 = .ok (.iconst 1, 1) := by decide +kernel
theorem dX9_addEvent_71 : decode cX9_addEvent 71 = .ok (.isub, 1) := by decide +kernel
theorem dX9_addEvent_72 : decode cX9_addEvent 72 = .ok (.imul, 1) := by decide +kernel
theorem dX9_addEvent_73 : decode cX9_addEvent 73 = .ok (.iadd, 1) := by decide +kernel
theorem dX9_addEvent_74 : decode cX9_addEvent 74 = .ok (.iaload, 1) := by decide +kernel
theorem dX9_addEvent_75 : decode cX9_addEvent 75 = .ok (.iload_n 1, 1) := by decide +kernel
theorem dX9_addEvent_76 : decode cX9_addEvent 76 = .ok (.if_icmp .le 58, 3) := by decide +kernel
theorem dX9_addEvent_79 : decode cX9_addEvent 79 = .ok (.iconst 0, 1) := by decide +kernel
theorem dX9_addEvent_80 : decode cX9_addEvent 80 = .ok (.istore 6, 2) := by decide +kernel
theorem dX9_addEvent_82 : decode cX9_addEvent 82 = .ok (.iload 6, 2) := by decide +kernel
theorem dX9_addEvent_84 : decode cX9_addEvent 84 = .ok (.iconst 4, 1) := by decide +kernel
theorem dX9_addEvent_85 : decode cX9_addEvent 85 = .ok (.if_icmp .ge 43, 3) := by decide +kernel
theorem dX9_addEvent_88 : decode cX9_addEvent 88 = .ok (.aload_n 0, 1) := by decide +kernel
theorem dX9_addEvent_89 : decode cX9_addEvent 89 = .ok (.getfield 7, 3) := by decide +kernel
theorem dX9_addEvent_92 : decode cX9_addEvent 92 = .ok (.sipush 145, 3) := by decide +kernel
theorem dX9_addEvent_95 : decode cX9_addEvent 95 = .ok (.iconst 4, 1) := by decide +kernel
theorem dX9_addEvent_96 : decode cX9_addEvent 96 = .ok (.iload 5, 2) := by decide +kernel
theorem dX9_addEvent_98 : decode cX9_addEvent 98 = .ok (.imul, 1) := by decide +kernel
theorem dX9_addEvent_99 : decode cX9_addEvent 99 = .ok (.iadd, 1) := by decide +kernel
theorem dX9_addEvent_100 : decode cX9_addEvent 100 = .ok (.iload 6, 2) := by decide +kernel
theorem dX9_addEvent_102 : decode cX9_addEvent 102 = .ok (.iadd, 1) := by decide +kernel
theorem dX9_addEvent_103 : decode cX9_addEvent 103 = .ok (.aload_n 0, 1) := by decide +kernel
theorem dX9_addEvent_104 : decode cX9_addEvent 104 = .ok (.getfield 7, 3) := by decide +kernel
theorem dX9_addEvent_107 : decode cX9_addEvent 107 = .ok (.sipush 145, 3) := by decide +kernel
theorem dX9_addEvent_110 : decode cX9_addEvent 110 = .ok (.iconst 4, 1) := by decide +kernel
theorem dX9_addEvent_111 : decode cX9_addEvent 111 = .ok (.iload 5, 2) := by decide +kernel
theorem dX9_addEvent_113 : decode cX9_addEvent 113 = .ok (.iconst 1, 1) := by decide +kernel
theorem dX9_addEvent_114 : decode cX9_addEvent 114 = .ok (.isub, 1) := by decide +kernel
theorem dX9_addEvent_115 : decode cX9_addEvent 115 = .ok (.imul, 1) := by decide +kernel
theorem dX9_addEvent_116 : decode cX9_addEvent 116 = .ok (.iadd, 1) := by decide +kernel
theorem dX9_addEvent_117 : decode cX9_addEvent 117 = .ok (.iload 6, 2) := by decide +kernel
theorem dX9_addEvent_119 : decode cX9_addEvent 119 = .ok (.iadd, 1) := by decide +kernel
theorem dX9_addEvent_120 : decode cX9_addEvent 120 = .ok (.iaload, 1) := by decide +kernel
theorem dX9_addEvent_121 : decode cX9_addEvent 121 = .ok (.iastore, 1) := by decide +kernel
theorem dX9_addEvent_122 : decode cX9_addEvent 122 = .ok (.iinc 6 1, 3) := by decide +kernel
theorem dX9_addEvent_125 : decode cX9_addEvent 125 = .ok (.goto (-43), 3) := by decide +kernel
theorem dX9_addEvent_128 : decode cX9_addEvent 128 = .ok (.iinc 5 (-1), 3) := by decide +kernel
theorem dX9_addEvent_131 : decode cX9_addEvent 131 = .ok (.goto (-76), 3) := by decide +kernel
theorem dX9_addEvent_134 : decode cX9_addEvent 134 = .ok (.aload_n 0, 1) := by decide +kernel
theorem dX9_addEvent_135 : decode cX9_addEvent 135 = .ok (.getfield 7, 3) := by decide +kernel
theorem dX9_addEvent_138 : decode cX9_addEvent 138 = .ok (.sipush 145, 3) := by decide +kernel
theorem dX9_addEvent_141 : decode cX9_addEvent 141 = .ok (.iconst 4, 1) := by decide +kernel
theorem dX9_addEvent_142 : decode cX9_addEvent 142 = .ok (.iload 5, 2) := by decide +kernel
theorem dX9_addEvent_144 : decode cX9_addEvent 144 = .ok (.imul, 1) := by decide +kernel
theorem dX9_addEvent_145 : decode cX9_addEvent 145 = .ok (.iadd, 1) := by decide +kernel
theorem dX9_addEvent_146 : decode cX9_addEvent 146 = .ok (.iload_n 1, 1) := by decide +kernel
theorem dX9_addEvent_147 : decode cX9_addEvent 147 = .ok (.iastore, 1) := by decide +kernel
theorem dX9_addEvent_148 : decode cX9_addEvent 148 = .ok (.aload_n 0, 1) := by decide +kernel
theorem dX9_addEvent_149 : decode cX9_addEvent 149 = .ok (.getfield 7, 3) := by decide +kernel
theorem dX9_addEvent_152 : decode cX9_addEvent 152 = .ok (.sipush 145, 3) := by decide +kernel
theorem dX9_addEvent_155 : decode cX9_addEvent 155 = .ok (.iconst 4, 1) := by decide +kernel
theorem dX9_addEvent_156 : decode cX9_addEvent 156 = .ok (.iload 5, 2) := by decide +kernel
theorem dX9_addEvent_158 : decode cX9_addEvent 158 = .ok (.imul, 1) := by decide +kernel
theorem dX9_addEvent_159 : decode cX9_addEvent 159 = .ok (.iadd, 1) := by decide +kernel
theorem dX9_addEvent_160 : decode cX9_addEvent 160 = .ok (.iconst 1, 1) := by decide +kernel
theorem dX9_addEvent_161 : decode cX9_addEvent 161 = .ok (.iadd, 1) := by decide +kernel
theorem dX9_addEvent_162 : decode cX9_addEvent 162 = .ok (.iload_n 2, 1) := by decide +kernel
theorem dX9_addEvent_163 : decode cX9_addEvent 163 = .ok (.iastore, 1) := by decide +kernel
theorem dX9_addEvent_164 : decode cX9_addEvent 164 = .ok (.aload_n 0, 1) := by decide +kernel
theorem dX9_addEvent_165 : decode cX9_addEvent 165 = .ok (.getfield 7, 3) := by decide +kernel
theorem dX9_addEvent_168 : decode cX9_addEvent 168 = .ok (.sipush 145, 3) := by decide +kernel
theorem dX9_addEvent_171 : decode cX9_addEvent 171 = .ok (.iconst 4, 1) := by decide +kernel
theorem dX9_addEvent_172 : decode cX9_addEvent 172 = .ok (.iload 5, 2) := by decide +kernel
theorem dX9_addEvent_174 : decode cX9_addEvent 174 = .ok (.imul, 1) := by decide +kernel
theorem dX9_addEvent_175 : decode cX9_addEvent 175 = .ok (.iadd, 1) := by decide +kernel
theorem dX9_addEvent_176 : decode cX9_addEvent 176 = .ok (.iconst 2, 1) := by decide +kernel
theorem dX9_addEvent_177 : decode cX9_addEvent 177 = .ok (.iadd, 1) := by decide +kernel
theorem dX9_addEvent_178 : decode cX9_addEvent 178 = .ok (.iload_n 3, 1) := by decide +kernel
theorem dX9_addEvent_179 : decode cX9_addEvent 179 = .ok (.iastore, 1) := by decide +kernel
theorem dX9_addEvent_180 : decode cX9_addEvent 180 = .ok (.aload_n 0, 1) := by decide +kernel
theorem dX9_addEvent_181 : decode cX9_addEvent 181 = .ok (.getfield 7, 3) := by decide +kernel
theorem dX9_addEvent_184 : decode cX9_addEvent 184 = .ok (.sipush 145, 3) := by decide +kernel
theorem dX9_addEvent_187 : decode cX9_addEvent 187 = .ok (.iconst 4, 1) := by decide +kernel
theorem dX9_addEvent_188 : decode cX9_addEvent 188 = .ok (.iload 5, 2) := by decide +kernel
theorem dX9_addEvent_190 : decode cX9_addEvent 190 = .ok (.imul, 1) := by decide +kernel
theorem dX9_addEvent_191 : decode cX9_addEvent 191 = .ok (.iadd, 1) := by decide +kernel
theorem dX9_addEvent_192 : decode cX9_addEvent 192 = .ok (.iconst 3, 1) := by decide +kernel
theorem dX9_addEvent_193 : decode cX9_addEvent 193 = .ok (.iadd, 1) := by decide +kernel
theorem dX9_addEvent_194 : decode cX9_addEvent 194 = .ok (.iload 4, 2) := by decide +kernel
theorem dX9_addEvent_196 : decode cX9_addEvent 196 = .ok (.iastore, 1) := by decide +kernel
theorem dX9_addEvent_197 : decode cX9_addEvent 197 = .ok (.aload_n 0, 1) := by decide +kernel
theorem dX9_addEvent_198 : decode cX9_addEvent 198 = .ok (.getfield 7, 3) := by decide +kernel
theorem dX9_addEvent_201 : decode cX9_addEvent 201 = .ok (.bipush 12, 2) := by decide +kernel
theorem dX9_addEvent_203 : decode cX9_addEvent 203 = .ok (.dup2, 1) := by decide +kernel
theorem dX9_addEvent_204 : decode cX9_addEvent 204 = .ok (.iaload, 1) := by decide +kernel
theorem dX9_addEvent_205 : decode cX9_addEvent 205 = .ok (.iconst 1, 1) := by decide +kernel
theorem dX9_addEvent_206 : decode cX9_addEvent 206 = .ok (.iadd, 1) := by decide +kernel
theorem dX9_addEvent_207 : decode cX9_addEvent 207 = .ok (.iastore, 1) := by decide +kernel
theorem dX9_addEvent_208 : decode cX9_addEvent 208 = .ok (.aload_n 0, 1) := by decide +kernel
theorem dX9_addEvent_209 : decode cX9_addEvent 209 = .ok (.getfield 7, 3) := by decide +kernel
theorem dX9_addEvent_212 : decode cX9_addEvent 212 = .ok (.bipush 12, 2) := by decide +kernel
theorem dX9_addEvent_214 : decode cX9_addEvent 214 = .ok (.iaload, 1) := by decide +kernel
theorem dX9_addEvent_215 : decode cX9_addEvent 215 = .ok (.ireturn, 1) := by decide +kernel
set_option maxRecDepth 20000 in
theorem ggX9_event_X9_within : GoodIn wsX9_event wsX9_within := goodIn_r _ [5] (by decide +kernel) (by decide +kernel)
set_option maxRecDepth 20000 in
theorem gX9_event_X9_within : GoodIn wsX9_event (va_wsS RX9 37 yX9_within wsX9_within) := goodIn_app (goodIn_of _ (by decide +kernel)) ggX9_event_X9_within
set_option maxRecDepth 20000 in
theorem ggX9_event_X9_refused : GoodIn wsX9_event wsX9_refused := goodIn_r _ [9, 10, 11, 12, 13, 14, 15, 16, 17] (by decide +kernel) (by decide +kernel)
set_option maxRecDepth 20000 in
theorem gX9_event_X9_refused : GoodIn wsX9_event (wsV RX9 33 RX9 yX9_refused wsX9_refused) := goodIn_app (goodIn_of _ (by decide +kernel)) ggX9_event_X9_refused
theorem dX9_event_0 : decode cX9_event 0 = .ok (.aload_n 0, 1) := by decide +kernel
theorem dX9_event_1 : decode cX9_event 1 = .ok (.iload_n 2, 1) := by decide +kernel
theorem dX9_event_2 : decode cX9_event 2 = .ok (.iconst 0, 1) := by decide +kernel
theorem dX9_event_3 : decode cX9_event 3 = .ok (.iconst 3, 1) := by decide +kernel
theorem dX9_event_4 : decode cX9_event 4 = .ok (.invokestatic 37, 3) := by decide +kernel
theorem dX9_event_7 : decode cX9_event 7 = .ok (.ifCond .eq 7, 3) := by decide +kernel
theorem dX9_event_10 : decode cX9_event 10 = .ok (.iconst 0, 1) := by decide +kernel
theorem dX9_event_11 : decode cX9_event 11 = .ok (.goto 4, 3) := by decide +kernel
theorem dX9_event_14 : decode cX9_event 14 = .ok (.iconst 1, 1) := by decide +kernel
theorem dX9_event_15 : decode cX9_event 15 = .ok (.invokevirtual 33, 3) := by decide +kernel
theorem dX9_event_18 : decode cX9_event 18 = .ok (.ifCond .eq 5, 3) := by decide +kernel
theorem dX9_event_21 : decode cX9_event 21 = .ok (.iconst 0, 1) := by decide +kernel
theorem dX9_event_22 : decode cX9_event 22 = .ok (.ireturn, 1) := by decide +kernel
theorem dX9_event_23 : decode cX9_event 23 = .ok (.iload_n 1, 1) := by decide +kernel
theorem dX9_event_24 : decode cX9_event 24 = .ok (.iconst 0, 1) := by decide +kernel
theorem dX9_event_25 : decode cX9_event 25 = .ok (.aload_n 0, 1) := by decide +kernel
theorem dX9_event_26 : decode cX9_event 26 = .ok (.getfield 7, 3) := by decide +kernel
theorem dX9_event_29 : decode cX9_event 29 = .ok (.bipush 12, 2) := by decide +kernel
theorem dX9_event_31 : decode cX9_event 31 = .ok (.iaload, 1) := by decide +kernel
theorem dX9_event_32 : decode cX9_event 32 = .ok (.iconst 1, 1) := by decide +kernel
theorem dX9_event_33 : decode cX9_event 33 = .ok (.isub, 1) := by decide +kernel
theorem dX9_event_34 : decode cX9_event 34 = .ok (.invokestatic 37, 3) := by decide +kernel
theorem dX9_event_37 : decode cX9_event 37 = .ok (.ifCond .eq 20, 3) := by decide +kernel
theorem dX9_event_40 : decode cX9_event 40 = .ok (.aload_n 0, 1) := by decide +kernel
theorem dX9_event_41 : decode cX9_event 41 = .ok (.getfield 7, 3) := by decide +kernel
theorem dX9_event_44 : decode cX9_event 44 = .ok (.sipush 145, 3) := by decide +kernel
theorem dX9_event_47 : decode cX9_event 47 = .ok (.iconst 4, 1) := by decide +kernel
theorem dX9_event_48 : decode cX9_event 48 = .ok (.iload_n 1, 1) := by decide +kernel
theorem dX9_event_49 : decode cX9_event 49 = .ok (.imul, 1) := by decide +kernel
theorem dX9_event_50 : decode cX9_event 50 = .ok (.iadd, 1) := by decide +kernel
theorem dX9_event_51 : decode cX9_event 51 = .ok (.iload_n 2, 1) := by decide +kernel
theorem dX9_event_52 : decode cX9_event 52 = .ok (.iadd, 1) := by decide +kernel
theorem dX9_event_53 : decode cX9_event 53 = .ok (.iaload, 1) := by decide +kernel
theorem dX9_event_54 : decode cX9_event 54 = .ok (.goto 4, 3) := by decide +kernel
theorem dX9_event_57 : decode cX9_event 57 = .ok (.iconst (-1), 1) := by decide +kernel
theorem dX9_event_58 : decode cX9_event 58 = .ok (.ireturn, 1) := by decide +kernel
set_option maxRecDepth 20000 in
theorem ggX9_mute_X9_isRoom : GoodIn wsX9_mute wsX9_isRoom := goodIn_r _ [5, 6, 7, 8, 4, 9, 25, 26, 27, 28, 29, 30, 31] (by decide +kernel) (by decide +kernel)
set_option maxRecDepth 20000 in
theorem gX9_mute_X9_isRoom : GoodIn wsX9_mute (wsV RX9 119 RX9 yX9_isRoom wsX9_isRoom) := goodIn_app (goodIn_of _ (by decide +kernel)) ggX9_mute_X9_isRoom
set_option maxRecDepth 20000 in
theorem ggX9_mute_X9_within : GoodIn wsX9_mute wsX9_within := goodIn_r _ [9] (by decide +kernel) (by decide +kernel)
set_option maxRecDepth 20000 in
theorem gX9_mute_X9_within : GoodIn wsX9_mute (va_wsS RX9 37 yX9_within wsX9_within) := goodIn_app (goodIn_of _ (by decide +kernel)) ggX9_mute_X9_within
set_option maxRecDepth 20000 in
theorem ggX9_mute_X9_refused : GoodIn wsX9_mute wsX9_refused := goodIn_r _ [13, 14, 25, 26, 27, 28, 29, 30, 31] (by decide +kernel) (by decide +kernel)
set_option maxRecDepth 20000 in
theorem gX9_mute_X9_refused : GoodIn wsX9_mute (wsV RX9 33 RX9 yX9_refused wsX9_refused) := goodIn_app (goodIn_of _ (by decide +kernel)) ggX9_mute_X9_refused
set_option maxRecDepth 20000 in
theorem ggX9_mute_X9_puts : GoodIn wsX9_mute wsX9_puts := goodIn_r _ [18, 6, 19, 20, 21, 4, 22, 23, 24, 25, 26, 27, 28, 29, 30, 31] (by decide +kernel) (by decide +kernel)
set_option maxRecDepth 20000 in
theorem gX9_mute_X9_puts : GoodIn wsX9_mute (wsV RX9 113 RX9 yX9_puts wsX9_puts) := goodIn_app (goodIn_of _ (by decide +kernel)) ggX9_mute_X9_puts
theorem dX9_mute_0 : decode cX9_mute 0 = .ok (.aload_n 0, 1) := by decide +kernel
theorem dX9_mute_1 : decode cX9_mute 1 = .ok (.aload_n 0, 1) := by decide +kernel
theorem dX9_mute_2 : decode cX9_mute 2 = .ok (.iload_n 1, 1) := by decide +kernel
theorem dX9_mute_3 : decode cX9_mute 3 = .ok (.invokevirtual 119, 3) := by decide +kernel
theorem dX9_mute_6 : decode cX9_mute 6 = .ok (.ifCond .ne 7, 3) := by decide +kernel
theorem dX9_mute_9 : decode cX9_mute 9 = .ok (.iconst 1, 1) := by decide +kernel
theorem dX9_mute_10 : decode cX9_mute 10 = .ok (.goto 18, 3) := by decide +kernel
theorem dX9_mute_13 : decode cX9_mute 13 = .ok (.iload_n 2, 1) := by decide +kernel
theorem dX9_mute_14 : decode cX9_mute 14 = .ok (.iconst 0, 1) := by decide +kernel
theorem dX9_mute_15 : decode cX9_mute 15 = .ok (.bipush 60, 2) := by decide +kernel
theorem dX9_mute_17 : decode cX9_mute 17 = .ok (.invokestatic 37, 3) := by decide +kernel
theorem dX9_mute_20 : decode cX9_mute 20 = .ok (.ifCond .ne 7, 3) := by decide +kernel
theorem dX9_mute_23 : decode cX9_mute 23 = .ok (.iconst 2, 1) := by decide +kernel
theorem dX9_mute_24 : decode cX9_mute 24 = .ok (.goto 4, 3) := by decide +kernel
theorem dX9_mute_27 : decode cX9_mute 27 = .ok (.iconst 0, 1) := by decide +kernel
theorem dX9_mute_28 : decode cX9_mute 28 = .ok (.invokevirtual 33, 3) := by decide +kernel
theorem dX9_mute_31 : decode cX9_mute 31 = .ok (.ifCond .eq 7, 3) := by decide +kernel
theorem dX9_mute_34 : decode cX9_mute 34 = .ok (.iconst 0, 1) := by decide +kernel
theorem dX9_mute_35 : decode cX9_mute 35 = .ok (.goto 12, 3) := by decide +kernel
theorem dX9_mute_38 : decode cX9_mute 38 = .ok (.aload_n 0, 1) := by decide +kernel
theorem dX9_mute_39 : decode cX9_mute 39 = .ok (.bipush 28, 2) := by decide +kernel
theorem dX9_mute_41 : decode cX9_mute 41 = .ok (.iload_n 1, 1) := by decide +kernel
theorem dX9_mute_42 : decode cX9_mute 42 = .ok (.iadd, 1) := by decide +kernel
theorem dX9_mute_43 : decode cX9_mute 43 = .ok (.iload_n 2, 1) := by decide +kernel
theorem dX9_mute_44 : decode cX9_mute 44 = .ok (.invokevirtual 113, 3) := by decide +kernel
theorem dX9_mute_47 : decode cX9_mute 47 = .ok (.ireturn, 1) := by decide +kernel
set_option maxRecDepth 20000 in
theorem ggX9_pass_X9_within : GoodIn wsX9_pass wsX9_within := goodIn_r _ [4] (by decide +kernel) (by decide +kernel)
set_option maxRecDepth 20000 in
theorem gX9_pass_X9_within : GoodIn wsX9_pass (va_wsS RX9 37 yX9_within wsX9_within) := goodIn_app (goodIn_of _ (by decide +kernel)) ggX9_pass_X9_within
set_option maxRecDepth 20000 in
theorem ggX9_pass_X9_refused : GoodIn wsX9_pass wsX9_refused := goodIn_r _ [8, 9, 102, 103, 104, 105, 106, 107, 108] (by decide +kernel) (by decide +kernel)
set_option maxRecDepth 20000 in
theorem gX9_pass_X9_refused : GoodIn wsX9_pass (wsV RX9 33 RX9 yX9_refused wsX9_refused) := goodIn_app (goodIn_of _ (by decide +kernel)) ggX9_pass_X9_refused
set_option maxRecDepth 20000 in
theorem ggX9_pass_X9_saves : GoodIn wsX9_pass wsX9_saves := goodIn_r _ [13, 14, 15, 16, 102, 103, 104, 105, 106, 107, 108] (by decide +kernel) (by decide +kernel)
set_option maxRecDepth 20000 in
theorem gX9_pass_X9_saves : GoodIn wsX9_pass (wsV RX9 107 RX9 yX9_saves wsX9_saves) := goodIn_app (goodIn_of _ (by decide +kernel)) ggX9_pass_X9_saves
set_option maxRecDepth 20000 in
theorem ggX9_pass_X9_minutes : GoodIn wsX9_pass wsX9_minutes := goodIn_r _ [20, 16, 21, 22, 23, 3, 24, 25, 26, 27, 28, 29, 30, 31, 32, 33, 34, 35, 36, 37, 38, 39, 40, 41, 42, 43, 44, 45, 46, 47, 48, 49, 50, 51, 52, 53, 54, 55, 56, 57, 58, 59, 60, 61, 62, 63, 64, 65, 66, 67, 68, 69, 70, 71, 72, 73, 74, 75, 76, 77, 78, 79, 80, 81, 82, 83, 84, 85, 86, 87, 88, 89, 90, 91, 92, 93, 94, 95, 96, 97, 98, 99, 100, 101, 102, 103, 104, 105, 106, 107, 108] (by decide +kernel) (by decide +kernel)
set_option maxRecDepth 20000 in
theorem gX9_pass_X9_minutes : GoodIn wsX9_pass (wsV RX9 138 RX9 yX9_minutes wsX9_minutes) := goodIn_app (goodIn_of _ (by decide +kernel)) ggX9_pass_X9_minutes
theorem dX9_pass_0 : decode cX9_pass 0 = .ok (.aload_n 0, 1) := by decide +kernel
theorem dX9_pass_1 : decode cX9_pass 1 = .ok (.iload_n 1, 1) := by decide +kernel
theorem dX9_pass_2 : decode cX9_pass 2 = .ok (.iconst 1, 1) := by decide +kernel
theorem dX9_pass_3 : decode cX9_pass 3 = .ok (.bipush 60, 2) := by decide +kernel
theorem dX9_pass_5 : decode cX9_pass 5 = .ok (.invokestatic 37, 3) := by decide +kernel
theorem dX9_pass_8 : decode cX9_pass 8 = .ok (.ifCond .eq 7, 3) := by decide +kernel
theorem dX9_pass_11 : decode cX9_pass 11 = .ok (.iconst 0, 1) := by decide +kernel
theorem dX9_pass_12 : decode cX9_pass 12 = .ok (.goto 4, 3) := by decide +kernel
theorem dX9_pass_15 : decode cX9_pass 15 = .ok (.iconst 1, 1) := by decide +kernel
theorem dX9_pass_16 : decode cX9_pass 16 = .ok (.invokevirtual 33, 3) := by decide +kernel
theorem dX9_pass_19 : decode cX9_pass 19 = .ok (.ifCond .eq 5, 3) := by decide +kernel
theorem dX9_pass_22 : decode cX9_pass 22 = .ok (.iconst 0, 1) := by decide +kernel
theorem dX9_pass_23 : decode cX9_pass 23 = .ok (.ireturn, 1) := by decide +kernel
theorem dX9_pass_24 : decode cX9_pass 24 = .ok (.aload_n 0, 1) := by decide +kernel
theorem dX9_pass_25 : decode cX9_pass 25 = .ok (.invokevirtual 107, 3) := by decide +kernel
theorem dX9_pass_28 : decode cX9_pass 28 = .ok (.iconst 0, 1) := by decide +kernel
theorem dX9_pass_29 : decode cX9_pass 29 = .ok (.istore_n 2, 1) := by decide +kernel
theorem dX9_pass_30 : decode cX9_pass 30 = .ok (.iconst 0, 1) := by decide +kernel
theorem dX9_pass_31 : decode cX9_pass 31 = .ok (.istore_n 3, 1) := by decide +kernel
theorem dX9_pass_32 : decode cX9_pass 32 = .ok (.iload_n 3, 1) := by decide +kernel
theorem dX9_pass_33 : decode cX9_pass 33 = .ok (.iload_n 1, 1) := by decide +kernel
theorem dX9_pass_34 : decode cX9_pass 34 = .ok (.if_icmp .ge 16, 3) := by decide +kernel
theorem dX9_pass_37 : decode cX9_pass 37 = .ok (.iload_n 2, 1) := by decide +kernel
theorem dX9_pass_38 : decode cX9_pass 38 = .ok (.aload_n 0, 1) := by decide +kernel
theorem dX9_pass_39 : decode cX9_pass 39 = .ok (.invokevirtual 138, 3) := by decide +kernel
theorem dX9_pass_42 : decode cX9_pass 42 = .ok (.iadd, 1) := by decide +kernel
theorem dX9_pass_43 : decode cX9_pass 43 = .ok (.istore_n 2, 1) := by decide +kernel
theorem dX9_pass_44 : decode cX9_pass 44 = .ok (.iinc 3 1, 3) := by decide +kernel
theorem dX9_pass_47 : decode cX9_pass 47 = .ok (.goto (-15), 3) := by decide +kernel
theorem dX9_pass_50 : decode cX9_pass 50 = .ok (.iload_n 2, 1) := by decide +kernel
theorem dX9_pass_51 : decode cX9_pass 51 = .ok (.ireturn, 1) := by decide +kernel
set_option maxRecDepth 20000 in
theorem ggX9_told_X9_within : GoodIn wsX9_told wsX9_within := goodIn_r _ [5] (by decide +kernel) (by decide +kernel)
set_option maxRecDepth 20000 in
theorem gX9_told_X9_within : GoodIn wsX9_told (va_wsS RX9 37 yX9_within wsX9_within) := goodIn_app (goodIn_of _ (by decide +kernel)) ggX9_told_X9_within
set_option maxRecDepth 20000 in
theorem ggX9_told_X9_refused : GoodIn wsX9_told wsX9_refused := goodIn_r _ [9, 10, 11, 12, 13, 14, 15, 16, 17] (by decide +kernel) (by decide +kernel)
set_option maxRecDepth 20000 in
theorem gX9_told_X9_refused : GoodIn wsX9_told (wsV RX9 33 RX9 yX9_refused wsX9_refused) := goodIn_app (goodIn_of _ (by decide +kernel)) ggX9_told_X9_refused
theorem dX9_told_0 : decode cX9_told 0 = .ok (.aload_n 0, 1) := by decide +kernel
theorem dX9_told_1 : decode cX9_told 1 = .ok (.iload_n 1, 1) := by decide +kernel
theorem dX9_told_2 : decode cX9_told 2 = .ok (.iconst 0, 1) := by decide +kernel
theorem dX9_told_3 : decode cX9_told 3 = .ok (.iconst 5, 1) := by decide +kernel
theorem dX9_told_4 : decode cX9_told 4 = .ok (.invokestatic 37, 3) := by decide +kernel
theorem dX9_told_7 : decode cX9_told 7 = .ok (.ifCond .eq 7, 3) := by decide +kernel
theorem dX9_told_10 : decode cX9_told 10 = .ok (.iconst 0, 1) := by decide +kernel
theorem dX9_told_11 : decode cX9_told 11 = .ok (.goto 4, 3) := by decide +kernel
theorem dX9_told_14 : decode cX9_told 14 = .ok (.iconst 1, 1) := by decide +kernel
theorem dX9_told_15 : decode cX9_told 15 = .ok (.invokevirtual 33, 3) := by decide +kernel
theorem dX9_told_18 : decode cX9_told 18 = .ok (.ifCond .eq 7, 3) := by decide +kernel
theorem dX9_told_21 : decode cX9_told 21 = .ok (.iconst 0, 1) := by decide +kernel
theorem dX9_told_22 : decode cX9_told 22 = .ok (.goto 12, 3) := by decide +kernel
theorem dX9_told_25 : decode cX9_told 25 = .ok (.aload_n 0, 1) := by decide +kernel
theorem dX9_told_26 : decode cX9_told 26 = .ok (.getfield 7, 3) := by decide +kernel
theorem dX9_told_29 : decode cX9_told 29 = .ok (.bipush 13, 2) := by decide +kernel
theorem dX9_told_31 : decode cX9_told 31 = .ok (.iload_n 1, 1) := by decide +kernel
theorem dX9_told_32 : decode cX9_told 32 = .ok (.iadd, 1) := by decide +kernel
theorem dX9_told_33 : decode cX9_told 33 = .ok (.iaload, 1) := by decide +kernel
theorem dX9_told_34 : decode cX9_told 34 = .ok (.ireturn, 1) := by decide +kernel
set_option maxRecDepth 20000 in
theorem ggX9_isAhead_X9_within : GoodIn wsX9_isAhead wsX9_within := goodIn_r _ [4] (by decide +kernel) (by decide +kernel)
set_option maxRecDepth 20000 in
theorem gX9_isAhead_X9_within : GoodIn wsX9_isAhead (va_wsS RX9 37 yX9_within wsX9_within) := goodIn_app (goodIn_of _ (by decide +kernel)) ggX9_isAhead_X9_within
theorem dX9_isAhead_0 : decode cX9_isAhead 0 = .ok (.iload_n 0, 1) := by decide +kernel
theorem dX9_isAhead_1 : decode cX9_isAhead 1 = .ok (.iconst 1, 1) := by decide +kernel
theorem dX9_isAhead_2 : decode cX9_isAhead 2 = .ok (.sipush 200, 3) := by decide +kernel
theorem dX9_isAhead_5 : decode cX9_isAhead 5 = .ok (.invokestatic 37, 3) := by decide +kernel
theorem dX9_isAhead_8 : decode cX9_isAhead 8 = .ok (.ireturn, 1) := by decide +kernel
set_option maxRecDepth 20000 in
theorem ggX9_alarmIn_X9_isRoom : GoodIn wsX9_alarmIn wsX9_isRoom := goodIn_r _ [5, 6, 7, 8, 4, 9, 112, 113, 114, 115, 116, 117, 118] (by decide +kernel) (by decide +kernel)
set_option maxRecDepth 20000 in
theorem gX9_alarmIn_X9_isRoom : GoodIn wsX9_alarmIn (wsV RX9 119 RX9 yX9_isRoom wsX9_isRoom) := goodIn_app (goodIn_of _ (by decide +kernel)) ggX9_alarmIn_X9_isRoom
set_option maxRecDepth 20000 in
theorem ggX9_alarmIn_X9_isAhead : GoodIn wsX9_alarmIn wsX9_isAhead := goodIn_r _ [12, 7, 8, 4, 9] (by decide +kernel) (by decide +kernel)
set_option maxRecDepth 20000 in
theorem gX9_alarmIn_X9_isAhead : GoodIn wsX9_alarmIn (va_wsS RX9 141 yX9_isAhead wsX9_isAhead) := goodIn_app (goodIn_of _ (by decide +kernel)) ggX9_alarmIn_X9_isAhead
set_option maxRecDepth 20000 in
theorem ggX9_alarmIn_X9_refused : GoodIn wsX9_alarmIn wsX9_refused := goodIn_r _ [16, 17, 112, 113, 114, 115, 116, 117, 118] (by decide +kernel) (by decide +kernel)
set_option maxRecDepth 20000 in
theorem gX9_alarmIn_X9_refused : GoodIn wsX9_alarmIn (wsV RX9 33 RX9 yX9_refused wsX9_refused) := goodIn_app (goodIn_of _ (by decide +kernel)) ggX9_alarmIn_X9_refused
set_option maxRecDepth 20000 in
theorem ggX9_alarmIn_X9_keeps : GoodIn wsX9_alarmIn wsX9_keeps := goodIn_r _ [21, 22, 6, 112, 113, 114, 115, 116, 117, 118] (by decide +kernel) (by decide +kernel)
set_option maxRecDepth 20000 in
theorem gX9_alarmIn_X9_keeps : GoodIn wsX9_alarmIn (wsV RX9 144 RX9 yX9_keeps wsX9_keeps) := goodIn_app (goodIn_of _ (by decide +kernel)) ggX9_alarmIn_X9_keeps
set_option maxRecDepth 20000 in
theorem ggX9_alarmIn_X9_hasAlarm : GoodIn wsX9_alarmIn wsX9_hasAlarm := goodIn_r _ [26, 6, 112, 113, 114, 115, 116, 117, 118] (by decide +kernel) (by decide +kernel)
set_option maxRecDepth 20000 in
theorem gX9_alarmIn_X9_hasAlarm : GoodIn wsX9_alarmIn (wsV RX9 62 RX9 yX9_hasAlarm wsX9_hasAlarm) := goodIn_app (goodIn_of _ (by decide +kernel)) ggX9_alarmIn_X9_hasAlarm
set_option maxRecDepth 20000 in
theorem ggX9_alarmIn_X9_minutes : GoodIn wsX9_alarmIn wsX9_minutes := goodIn_r _ [30, 6, 31, 32, 33, 4, 34, 23, 24, 25, 26, 35, 36, 37, 38, 39, 40, 41, 42, 43, 44, 45, 46, 47, 48, 49, 50, 51, 52, 53, 54, 55, 56, 57, 58, 59, 60, 61, 62, 63, 64, 65, 66, 67, 68, 69, 70, 71, 72, 73, 74, 75, 76, 77, 78, 79, 80, 81, 82, 83, 84, 85, 86, 87, 88, 89, 90, 91, 92, 93, 94, 95, 96, 97, 98, 99, 100, 101, 102, 103, 104, 105, 106, 107, 112, 113, 114, 115, 116, 117, 118] (by decide +kernel) (by decide +kernel)
set_option maxRecDepth 20000 in
theorem gX9_alarmIn_X9_minutes : GoodIn wsX9_alarmIn (wsV RX9 138 RX9 yX9_minutes wsX9_minutes) := goodIn_app (goodIn_of _ (by decide +kernel)) ggX9_alarmIn_X9_minutes
set_option maxRecDepth 20000 in
theorem ggX9_alarmIn_X9_returns : GoodIn wsX9_alarmIn wsX9_returns := goodIn_r _ [111, 6, 22, 112, 113, 114, 115, 116, 117, 118] (by decide +kernel) (by decide +kernel)
set_option maxRecDepth 20000 in
theorem gX9_alarmIn_X9_returns : GoodIn wsX9_alarmIn (wsV RX9 147 RX9 yX9_returns wsX9_returns) := goodIn_app (goodIn_of _ (by decide +kernel)) ggX9_alarmIn_X9_returns
theorem dX9_alarmIn_0 : decode cX9_alarmIn 0 = .ok (.aload_n 0, 1) := by decide +kernel
theorem dX9_alarmIn_1 : decode cX9_alarmIn 1 = .ok (.aload_n 0, 1) := by decide +kernel
theorem dX9_alarmIn_2 : decode cX9_alarmIn 2 = .ok (.iload_n 1, 1) := by decide +kernel
theorem dX9_alarmIn_3 : decode cX9_alarmIn 3 = .ok (.invokevirtual 119, 3) := by decide +kernel
theorem dX9_alarmIn_6 : decode cX9_alarmIn 6 = .ok (.ifCond .ne 7, 3) := by decide +kernel
theorem dX9_alarmIn_9 : decode cX9_alarmIn 9 = .ok (.iconst 1, 1) := by decide +kernel
theorem dX9_alarmIn_10 : decode cX9_alarmIn 10 = .ok (.goto 15, 3) := by decide +kernel
theorem dX9_alarmIn_13 : decode cX9_alarmIn 13 = .ok (.iload_n 2, 1) := by decide +kernel
theorem dX9_alarmIn_14 : decode cX9_alarmIn 14 = .ok (.invokestatic 141, 3) := by decide +kernel
theorem dX9_alarmIn_17 : decode cX9_alarmIn 17 = .ok (.ifCond .ne 7, 3) := by decide +kernel
theorem dX9_alarmIn_20 : decode cX9_alarmIn 20 = .ok (.iconst 2, 1) := by decide +kernel
theorem dX9_alarmIn_21 : decode cX9_alarmIn 21 = .ok (.goto 4, 3) := by decide +kernel
theorem dX9_alarmIn_24 : decode cX9_alarmIn 24 = .ok (.iconst 0, 1) := by decide +kernel
theorem dX9_alarmIn_25 : decode cX9_alarmIn 25 = .ok (.invokevirtual 33, 3) := by decide +kernel
theorem dX9_alarmIn_28 : decode cX9_alarmIn 28 = .ok (.ifCond .eq 5, 3) := by decide +kernel
theorem dX9_alarmIn_31 : decode cX9_alarmIn 31 = .ok (.iconst 0, 1) := by decide +kernel
theorem dX9_alarmIn_32 : decode cX9_alarmIn 32 = .ok (.ireturn, 1) := by decide +kernel
theorem dX9_alarmIn_33 : decode cX9_alarmIn 33 = .ok (.aload_n 0, 1) := by decide +kernel
theorem dX9_alarmIn_34 : decode cX9_alarmIn 34 = .ok (.invokevirtual 144, 3) := by decide +kernel
theorem dX9_alarmIn_37 : decode cX9_alarmIn 37 = .ok (.iconst 0, 1) := by decide +kernel
theorem dX9_alarmIn_38 : decode cX9_alarmIn 38 = .ok (.istore_n 3, 1) := by decide +kernel
theorem dX9_alarmIn_39 : decode cX9_alarmIn 39 = .ok (.iload_n 3, 1) := by decide +kernel
theorem dX9_alarmIn_40 : decode cX9_alarmIn 40 = .ok (.iload_n 2, 1) := by decide +kernel
theorem dX9_alarmIn_41 : decode cX9_alarmIn 41 = .ok (.if_icmp .ge 23, 3) := by decide +kernel
theorem dX9_alarmIn_44 : decode cX9_alarmIn 44 = .ok (.aload_n 0, 1) := by decide +kernel
theorem dX9_alarmIn_45 : decode cX9_alarmIn 45 = .ok (.iload_n 1, 1) := by decide +kernel
theorem dX9_alarmIn_46 : decode cX9_alarmIn 46 = .ok (.invokevirtual 62, 3) := by decide +kernel
theorem dX9_alarmIn_49 : decode cX9_alarmIn 49 = .ok (.ifCond .ne 15, 3) := by decide +kernel
theorem dX9_alarmIn_52 : decode cX9_alarmIn 52 = .ok (.aload_n 0, 1) := by decide +kernel
theorem dX9_alarmIn_53 : decode cX9_alarmIn 53 = .ok (.invokevirtual 138, 3) := by decide +kernel
theorem dX9_alarmIn_56 : decode cX9_alarmIn 56 = .ok (.istore 4, 2) := by decide +kernel
theorem dX9_alarmIn_58 : decode cX9_alarmIn 58 = .ok (.iinc 3 1, 3) := by decide +kernel
theorem dX9_alarmIn_61 : decode cX9_alarmIn 61 = .ok (.goto (-22), 3) := by decide +kernel
theorem dX9_alarmIn_64 : decode cX9_alarmIn 64 = .ok (.aload_n 0, 1) := by decide +kernel
theorem dX9_alarmIn_65 : decode cX9_alarmIn 65 = .ok (.iload_n 1, 1) := by decide +kernel
theorem dX9_alarmIn_66 : decode cX9_alarmIn 66 = .ok (.invokevirtual 62, 3) := by decide +kernel
theorem dX9_alarmIn_69 : decode cX9_alarmIn 69 = .ok (.istore 4, 2) := by decide +kernel
theorem dX9_alarmIn_71 : decode cX9_alarmIn 71 = .ok (.aload_n 0, 1) := by decide +kernel
theorem dX9_alarmIn_72 : decode cX9_alarmIn 72 = .ok (.invokevirtual 147, 3) := by decide +kernel
theorem dX9_alarmIn_75 : decode cX9_alarmIn 75 = .ok (.iload 4, 2) := by decide +kernel
theorem dX9_alarmIn_77 : decode cX9_alarmIn 77 = .ok (.ifCond .eq 7, 3) := by decide +kernel
theorem dX9_alarmIn_80 : decode cX9_alarmIn 80 = .ok (.iload_n 3, 1) := by decide +kernel
theorem dX9_alarmIn_81 : decode cX9_alarmIn 81 = .ok (.goto 4, 3) := by decide +kernel
theorem dX9_alarmIn_84 : decode cX9_alarmIn 84 = .ok (.iconst (-1), 1) := by decide +kernel
theorem dX9_alarmIn_85 : decode cX9_alarmIn 85 = .ok (.ireturn, 1) := by decide +kernel
set_option maxRecDepth 20000 in
theorem ggX9_smokeAfter_X9_isRoom : GoodIn wsX9_smokeAfter wsX9_isRoom := goodIn_r _ [6, 1, 7, 8, 5, 9, 112, 113, 114, 115, 116, 117, 118] (by decide +kernel) (by decide +kernel)
set_option maxRecDepth 20000 in
theorem gX9_smokeAfter_X9_isRoom : GoodIn wsX9_smokeAfter (wsV RX9 119 RX9 yX9_isRoom wsX9_isRoom) := goodIn_app (goodIn_of _ (by decide +kernel)) ggX9_smokeAfter_X9_isRoom
set_option maxRecDepth 20000 in
theorem ggX9_smokeAfter_X9_isAhead : GoodIn wsX9_smokeAfter wsX9_isAhead := goodIn_r _ [12, 7, 8, 5, 9] (by decide +kernel) (by decide +kernel)
set_option maxRecDepth 20000 in
theorem gX9_smokeAfter_X9_isAhead : GoodIn wsX9_smokeAfter (va_wsS RX9 141 yX9_isAhead wsX9_isAhead) := goodIn_app (goodIn_of _ (by decide +kernel)) ggX9_smokeAfter_X9_isAhead
set_option maxRecDepth 20000 in
theorem ggX9_smokeAfter_X9_refused : GoodIn wsX9_smokeAfter wsX9_refused := goodIn_r _ [16, 17, 112, 113, 114, 115, 116, 117, 118] (by decide +kernel) (by decide +kernel)
set_option maxRecDepth 20000 in
theorem gX9_smokeAfter_X9_refused : GoodIn wsX9_smokeAfter (wsV RX9 33 RX9 yX9_refused wsX9_refused) := goodIn_app (goodIn_of _ (by decide +kernel)) ggX9_smokeAfter_X9_refused
set_option maxRecDepth 20000 in
theorem ggX9_smokeAfter_X9_keeps : GoodIn wsX9_smokeAfter wsX9_keeps := goodIn_r _ [21, 22, 1, 112, 113, 114, 115, 116, 117, 118] (by decide +kernel) (by decide +kernel)
set_option maxRecDepth 20000 in
theorem gX9_smokeAfter_X9_keeps : GoodIn wsX9_smokeAfter (wsV RX9 144 RX9 yX9_keeps wsX9_keeps) := goodIn_app (goodIn_of _ (by decide +kernel)) ggX9_smokeAfter_X9_keeps
set_option maxRecDepth 20000 in
theorem ggX9_smokeAfter_X9_minutes : GoodIn wsX9_smokeAfter wsX9_minutes := goodIn_r _ [26, 1, 27, 28, 29, 5, 30, 31, 32, 33, 34, 35, 36, 37, 38, 39, 40, 41, 42, 43, 44, 45, 46, 47, 48, 49, 50, 51, 52, 53, 54, 55, 56, 57, 58, 59, 60, 61, 62, 63, 64, 65, 66, 67, 68, 69, 70, 71, 72, 73, 74, 75, 76, 77, 78, 79, 80, 81, 82, 83, 84, 85, 86, 87, 88, 89, 90, 91, 92, 93, 94, 95, 96, 97, 98, 99, 100, 101, 102, 103, 104, 105, 106, 107, 112, 113, 114, 115, 116, 117, 118] (by decide +kernel) (by decide +kernel)
set_option maxRecDepth 20000 in
theorem gX9_smokeAfter_X9_minutes : GoodIn wsX9_smokeAfter (wsV RX9 138 RX9 yX9_minutes wsX9_minutes) := goodIn_app (goodIn_of _ (by decide +kernel)) ggX9_smokeAfter_X9_minutes
set_option maxRecDepth 20000 in
theorem ggX9_smokeAfter_X9_returns : GoodIn wsX9_smokeAfter wsX9_returns := goodIn_r _ [111, 1, 22, 112, 113, 114, 115, 116, 117, 118] (by decide +kernel) (by decide +kernel)
set_option maxRecDepth 20000 in
theorem gX9_smokeAfter_X9_returns : GoodIn wsX9_smokeAfter (wsV RX9 147 RX9 yX9_returns wsX9_returns) := goodIn_app (goodIn_of _ (by decide +kernel)) ggX9_smokeAfter_X9_returns
theorem dX9_smokeAfter_0 : decode cX9_smokeAfter 0 = .ok (.aload_n 0, 1) := by decide +kernel
theorem dX9_smokeAfter_1 : decode cX9_smokeAfter 1 = .ok (.aload_n 0, 1) := by decide +kernel
theorem dX9_smokeAfter_2 : decode cX9_smokeAfter 2 = .ok (.iload_n 1, 1) := by decide +kernel
theorem dX9_smokeAfter_3 : decode cX9_smokeAfter 3 = .ok (.invokevirtual 119, 3) := by decide +kernel
theorem dX9_smokeAfter_6 : decode cX9_smokeAfter 6 = .ok (.ifCond .ne 7, 3) := by decide +kernel
theorem dX9_smokeAfter_9 : decode cX9_smokeAfter 9 = .ok (.iconst 1, 1) := by decide +kernel
theorem dX9_smokeAfter_10 : decode cX9_smokeAfter 10 = .ok (.goto 15, 3) := by decide +kernel
theorem dX9_smokeAfter_13 : decode cX9_smokeAfter 13 = .ok (.iload_n 2, 1) := by decide +kernel
theorem dX9_smokeAfter_14 : decode cX9_smokeAfter 14 = .ok (.invokestatic 141, 3) := by decide +kernel
theorem dX9_smokeAfter_17 : decode cX9_smokeAfter 17 = .ok (.ifCond .ne 7, 3) := by decide +kernel
theorem dX9_smokeAfter_20 : decode cX9_smokeAfter 20 = .ok (.iconst 2, 1) := by decide +kernel
theorem dX9_smokeAfter_21 : decode cX9_smokeAfter 21 = .ok (.goto 4, 3) := by decide +kernel
theorem dX9_smokeAfter_24 : decode cX9_smokeAfter 24 = .ok (.iconst 0, 1) := by decide +kernel
theorem dX9_smokeAfter_25 : decode cX9_smokeAfter 25 = .ok (.invokevirtual 33, 3) := by decide +kernel
theorem dX9_smokeAfter_28 : decode cX9_smokeAfter 28 = .ok (.ifCond .eq 5, 3) := by decide +kernel
theorem dX9_smokeAfter_31 : decode cX9_smokeAfter 31 = .ok (.iconst 0, 1) := by decide +kernel
theorem dX9_smokeAfter_32 : decode cX9_smokeAfter 32 = .ok (.ireturn, 1) := by decide +kernel
theorem dX9_smokeAfter_33 : decode cX9_smokeAfter 33 = .ok (.aload_n 0, 1) := by decide +kernel
theorem dX9_smokeAfter_34 : decode cX9_smokeAfter 34 = .ok (.invokevirtual 144, 3) := by decide +kernel
theorem dX9_smokeAfter_37 : decode cX9_smokeAfter 37 = .ok (.iconst 0, 1) := by decide +kernel
theorem dX9_smokeAfter_38 : decode cX9_smokeAfter 38 = .ok (.istore_n 3, 1) := by decide +kernel
theorem dX9_smokeAfter_39 : decode cX9_smokeAfter 39 = .ok (.iload_n 3, 1) := by decide +kernel
theorem dX9_smokeAfter_40 : decode cX9_smokeAfter 40 = .ok (.iload_n 2, 1) := by decide +kernel
theorem dX9_smokeAfter_41 : decode cX9_smokeAfter 41 = .ok (.if_icmp .ge 15, 3) := by decide +kernel
theorem dX9_smokeAfter_44 : decode cX9_smokeAfter 44 = .ok (.aload_n 0, 1) := by decide +kernel
theorem dX9_smokeAfter_45 : decode cX9_smokeAfter 45 = .ok (.invokevirtual 138, 3) := by decide +kernel
theorem dX9_smokeAfter_48 : decode cX9_smokeAfter 48 = .ok (.istore 4, 2) := by decide +kernel
theorem dX9_smokeAfter_50 : decode cX9_smokeAfter 50 = .ok (.iinc 3 1, 3) := by decide +kernel
theorem dX9_smokeAfter_53 : decode cX9_smokeAfter 53 = .ok (.goto (-14), 3) := by decide +kernel
theorem dX9_smokeAfter_56 : decode cX9_smokeAfter 56 = .ok (.aload_n 0, 1) := by decide +kernel
theorem dX9_smokeAfter_57 : decode cX9_smokeAfter 57 = .ok (.getfield 7, 3) := by decide +kernel
theorem dX9_smokeAfter_60 : decode cX9_smokeAfter 60 = .ok (.bipush 20, 2) := by decide +kernel
theorem dX9_smokeAfter_62 : decode cX9_smokeAfter 62 = .ok (.iload_n 1, 1) := by decide +kernel
theorem dX9_smokeAfter_63 : decode cX9_smokeAfter 63 = .ok (.iadd, 1) := by decide +kernel
theorem dX9_smokeAfter_64 : decode cX9_smokeAfter 64 = .ok (.iaload, 1) := by decide +kernel
theorem dX9_smokeAfter_65 : decode cX9_smokeAfter 65 = .ok (.istore_n 3, 1) := by decide +kernel
theorem dX9_smokeAfter_66 : decode cX9_smokeAfter 66 = .ok (.aload_n 0, 1) := by decide +kernel
theorem dX9_smokeAfter_67 : decode cX9_smokeAfter 67 = .ok (.invokevirtual 147, 3) := by decide +kernel
theorem dX9_smokeAfter_70 : decode cX9_smokeAfter 70 = .ok (.iload_n 3, 1) := by decide +kernel
theorem dX9_smokeAfter_71 : decode cX9_smokeAfter 71 = .ok (.ireturn, 1) := by decide +kernel
set_option maxRecDepth 20000 in
theorem ggX9_peakOf_X9_keeps : GoodIn wsX9_peakOf wsX9_keeps := goodIn_r _ [6, 7, 1, 97, 98, 99, 100, 101, 102, 103] (by decide +kernel) (by decide +kernel)
set_option maxRecDepth 20000 in
theorem gX9_peakOf_X9_keeps : GoodIn wsX9_peakOf (wsV RX9 144 RX9 yX9_keeps wsX9_keeps) := goodIn_app (goodIn_of _ (by decide +kernel)) ggX9_peakOf_X9_keeps
set_option maxRecDepth 20000 in
theorem ggX9_peakOf_X9_minutes : GoodIn wsX9_peakOf wsX9_minutes := goodIn_r _ [11, 1, 12, 13, 14, 5, 15, 16, 17, 18, 19, 20, 21, 22, 23, 24, 25, 26, 27, 28, 29, 30, 31, 32, 33, 34, 35, 36, 37, 38, 39, 40, 41, 42, 43, 44, 45, 46, 47, 48, 49, 50, 51, 52, 53, 54, 55, 56, 57, 58, 59, 60, 61, 62, 63, 64, 65, 66, 67, 68, 69, 70, 71, 72, 73, 74, 75, 76, 77, 78, 79, 80, 81, 82, 83, 84, 85, 86, 87, 88, 89, 90, 91, 92, 97, 98, 99, 100, 101, 102, 103] (by decide +kernel) (by decide +kernel)
set_option maxRecDepth 20000 in
theorem gX9_peakOf_X9_minutes : GoodIn wsX9_peakOf (wsV RX9 138 RX9 yX9_minutes wsX9_minutes) := goodIn_app (goodIn_of _ (by decide +kernel)) ggX9_peakOf_X9_minutes
set_option maxRecDepth 20000 in
theorem ggX9_peakOf_X9_returns : GoodIn wsX9_peakOf wsX9_returns := goodIn_r _ [96, 1, 7, 97, 98, 99, 100, 101, 102, 103] (by decide +kernel) (by decide +kernel)
set_option maxRecDepth 20000 in
theorem gX9_peakOf_X9_returns : GoodIn wsX9_peakOf (wsV RX9 147 RX9 yX9_returns wsX9_returns) := goodIn_app (goodIn_of _ (by decide +kernel)) ggX9_peakOf_X9_returns
theorem dX9_peakOf_0 : decode cX9_peakOf 0 = .ok (.aload_n 0, 1) := by decide +kernel
theorem dX9_peakOf_1 : decode cX9_peakOf 1 = .ok (.invokevirtual 144, 3) := by decide +kernel
theorem dX9_peakOf_4 : decode cX9_peakOf 4 = .ok (.aload_n 0, 1) := by decide +kernel
theorem dX9_peakOf_5 : decode cX9_peakOf 5 = .ok (.getfield 7, 3) := by decide +kernel
theorem dX9_peakOf_8 : decode cX9_peakOf 8 = .ok (.bipush 11, 2) := by decide +kernel
theorem dX9_peakOf_10 : decode cX9_peakOf 10 = .ok (.iconst 0, 1) := by decide +kernel
theorem dX9_peakOf_11 : decode cX9_peakOf 11 = .ok (.iastore, 1) := by decide +kernel
theorem dX9_peakOf_12 : decode cX9_peakOf 12 = .ok (.aload_n 0, 1) := by decide +kernel
theorem dX9_peakOf_13 : decode cX9_peakOf 13 = .ok (.getfield 7, 3) := by decide +kernel
theorem dX9_peakOf_16 : decode cX9_peakOf 16 = .ok (.iconst 4, 1) := by decide +kernel
theorem dX9_peakOf_17 : decode cX9_peakOf 17 = .ok (.iload_n 2, 1) := by decide +kernel
theorem dX9_peakOf_18 : decode cX9_peakOf 18 = .ok (.iastore, 1) := by decide +kernel
theorem dX9_peakOf_19 : decode cX9_peakOf 19 = .ok (.aload_n 0, 1) := by decide +kernel
theorem dX9_peakOf_20 : decode cX9_peakOf 20 = .ok (.getfield 7, 3) := by decide +kernel
theorem dX9_peakOf_23 : decode cX9_peakOf 23 = .ok (.bipush 9, 2) := by decide +kernel
theorem dX9_peakOf_25 : decode cX9_peakOf 25 = .ok (.iload_n 2, 1) := by decide +kernel
theorem dX9_peakOf_26 : decode cX9_peakOf 26 = .ok (.iastore, 1) := by decide +kernel
theorem dX9_peakOf_27 : decode cX9_peakOf 27 = .ok (.iconst 0, 1) := by decide +kernel
theorem dX9_peakOf_28 : decode cX9_peakOf 28 = .ok (.istore 4, 2) := by decide +kernel
theorem dX9_peakOf_30 : decode cX9_peakOf 30 = .ok (.iconst 0, 1) := by decide +kernel
theorem dX9_peakOf_31 : decode cX9_peakOf 31 = .ok (.istore 5, 2) := by decide +kernel
theorem dX9_peakOf_33 : decode cX9_peakOf 33 = .ok (.iload 5, 2) := by decide +kernel
theorem dX9_peakOf_35 : decode cX9_peakOf 35 = .ok (.iload_n 3, 1) := by decide +kernel
theorem dX9_peakOf_36 : decode cX9_peakOf 36 = .ok (.if_icmp .ge 45, 3) := by decide +kernel
theorem dX9_peakOf_39 : decode cX9_peakOf 39 = .ok (.aload_n 0, 1) := by decide +kernel
theorem dX9_peakOf_40 : decode cX9_peakOf 40 = .ok (.invokevirtual 138, 3) := by decide +kernel
theorem dX9_peakOf_43 : decode cX9_peakOf 43 = .ok (.istore 6, 2) := by decide +kernel
theorem dX9_peakOf_45 : decode cX9_peakOf 45 = .ok (.aload_n 0, 1) := by decide +kernel
theorem dX9_peakOf_46 : decode cX9_peakOf 46 = .ok (.getfield 7, 3) := by decide +kernel
theorem dX9_peakOf_49 : decode cX9_peakOf 49 = .ok (.bipush 20, 2) := by decide +kernel
theorem dX9_peakOf_51 : decode cX9_peakOf 51 = .ok (.iload_n 1, 1) := by decide +kernel
theorem dX9_peakOf_52 : decode cX9_peakOf 52 = .ok (.iadd, 1) := by decide +kernel
theorem dX9_peakOf_53 : decode cX9_peakOf 53 = .ok (.iaload, 1) := by decide +kernel
theorem dX9_peakOf_54 : decode cX9_peakOf 54 = .ok (.iload 4, 2) := by decide +kernel
theorem dX9_peakOf_56 : decode cX9_peakOf 56 = .ok (.if_icmp .le 15, 3) := by decide +kernel
theorem dX9_peakOf_59 : decode cX9_peakOf 59 = .ok (.aload_n 0, 1) := by decide +kernel
theorem dX9_peakOf_60 : decode cX9_peakOf 60 = .ok (.getfield 7, 3) := by decide +kernel
theorem dX9_peakOf_63 : decode cX9_peakOf 63 = .ok (.bipush 20, 2) := by decide +kernel
theorem dX9_peakOf_65 : decode cX9_peakOf 65 = .ok (.iload_n 1, 1) := by decide +kernel
theorem dX9_peakOf_66 : decode cX9_peakOf 66 = .ok (.iadd, 1) := by decide +kernel
theorem dX9_peakOf_67 : decode cX9_peakOf 67 = .ok (.iaload, 1) := by decide +kernel
theorem dX9_peakOf_68 : decode cX9_peakOf 68 = .ok (.goto 5, 3) := by decide +kernel
theorem dX9_peakOf_71 : decode cX9_peakOf 71 = .ok (.iload 4, 2) := by decide +kernel
theorem dX9_peakOf_73 : decode cX9_peakOf 73 = .ok (.istore 4, 2) := by decide +kernel
theorem dX9_peakOf_75 : decode cX9_peakOf 75 = .ok (.iinc 5 1, 3) := by decide +kernel
theorem dX9_peakOf_78 : decode cX9_peakOf 78 = .ok (.goto (-45), 3) := by decide +kernel
theorem dX9_peakOf_81 : decode cX9_peakOf 81 = .ok (.aload_n 0, 1) := by decide +kernel
theorem dX9_peakOf_82 : decode cX9_peakOf 82 = .ok (.invokevirtual 147, 3) := by decide +kernel
theorem dX9_peakOf_85 : decode cX9_peakOf 85 = .ok (.iload 4, 2) := by decide +kernel
theorem dX9_peakOf_87 : decode cX9_peakOf 87 = .ok (.ireturn, 1) := by decide +kernel
set_option maxRecDepth 20000 in
theorem ggX9_peak_X9_isRoom : GoodIn wsX9_peak wsX9_isRoom := goodIn_r _ [5, 6, 7, 8, 4, 9, 116, 117, 118, 119, 120, 121, 122] (by decide +kernel) (by decide +kernel)
set_option maxRecDepth 20000 in
theorem gX9_peak_X9_isRoom : GoodIn wsX9_peak (wsV RX9 119 RX9 yX9_isRoom wsX9_isRoom) := goodIn_app (goodIn_of _ (by decide +kernel)) ggX9_peak_X9_isRoom
set_option maxRecDepth 20000 in
theorem ggX9_peak_X9_within : GoodIn wsX9_peak wsX9_within := goodIn_r _ [9] (by decide +kernel) (by decide +kernel)
set_option maxRecDepth 20000 in
theorem gX9_peak_X9_within : GoodIn wsX9_peak (va_wsS RX9 37 yX9_within wsX9_within) := goodIn_app (goodIn_of _ (by decide +kernel)) ggX9_peak_X9_within
set_option maxRecDepth 20000 in
theorem ggX9_peak_X9_isAhead : GoodIn wsX9_peak wsX9_isAhead := goodIn_r _ [12, 7, 8, 4, 9] (by decide +kernel) (by decide +kernel)
set_option maxRecDepth 20000 in
theorem gX9_peak_X9_isAhead : GoodIn wsX9_peak (va_wsS RX9 141 yX9_isAhead wsX9_isAhead) := goodIn_app (goodIn_of _ (by decide +kernel)) ggX9_peak_X9_isAhead
set_option maxRecDepth 20000 in
theorem ggX9_peak_X9_refused : GoodIn wsX9_peak wsX9_refused := goodIn_r _ [16, 17, 116, 117, 118, 119, 120, 121, 122] (by decide +kernel) (by decide +kernel)
set_option maxRecDepth 20000 in
theorem gX9_peak_X9_refused : GoodIn wsX9_peak (wsV RX9 33 RX9 yX9_refused wsX9_refused) := goodIn_app (goodIn_of _ (by decide +kernel)) ggX9_peak_X9_refused
set_option maxRecDepth 20000 in
theorem ggX9_peak_X9_peakOf : GoodIn wsX9_peak wsX9_peakOf := goodIn_r _ [21, 6, 22, 23, 24, 4, 25, 26, 27, 28, 29, 30, 31, 32, 33, 34, 35, 36, 37, 38, 39, 40, 41, 42, 43, 44, 45, 46, 47, 48, 49, 50, 51, 52, 53, 54, 55, 56, 57, 58, 59, 60, 61, 62, 63, 64, 65, 66, 67, 68, 69, 70, 71, 72, 73, 74, 75, 76, 77, 78, 79, 80, 81, 82, 83, 84, 85, 86, 87, 88, 89, 90, 91, 92, 93, 94, 95, 96, 97, 98, 99, 100, 101, 102, 103, 104, 105, 106, 107, 108, 109, 110, 111, 112, 113, 114, 115, 116, 117, 118, 119, 120, 121, 122] (by decide +kernel) (by decide +kernel)
set_option maxRecDepth 20000 in
theorem gX9_peak_X9_peakOf : GoodIn wsX9_peak (wsV RX9 150 RX9 yX9_peakOf wsX9_peakOf) := goodIn_app (goodIn_of _ (by decide +kernel)) ggX9_peak_X9_peakOf
theorem dX9_peak_0 : decode cX9_peak 0 = .ok (.aload_n 0, 1) := by decide +kernel
theorem dX9_peak_1 : decode cX9_peak 1 = .ok (.aload_n 0, 1) := by decide +kernel
theorem dX9_peak_2 : decode cX9_peak 2 = .ok (.iload_n 1, 1) := by decide +kernel
theorem dX9_peak_3 : decode cX9_peak 3 = .ok (.invokevirtual 119, 3) := by decide +kernel
theorem dX9_peak_6 : decode cX9_peak 6 = .ok (.ifCond .ne 7, 3) := by decide +kernel
theorem dX9_peak_9 : decode cX9_peak 9 = .ok (.iconst 1, 1) := by decide +kernel
theorem dX9_peak_10 : decode cX9_peak 10 = .ok (.goto 25, 3) := by decide +kernel
theorem dX9_peak_13 : decode cX9_peak 13 = .ok (.iload_n 2, 1) := by decide +kernel
theorem dX9_peak_14 : decode cX9_peak 14 = .ok (.iconst 0, 1) := by decide +kernel
theorem dX9_peak_15 : decode cX9_peak 15 = .ok (.bipush 8, 2) := by decide +kernel
theorem dX9_peak_17 : decode cX9_peak 17 = .ok (.invokestatic 37, 3) := by decide +kernel
theorem dX9_peak_20 : decode cX9_peak 20 = .ok (.ifCond .eq 10, 3) := by decide +kernel
theorem dX9_peak_23 : decode cX9_peak 23 = .ok (.iload_n 3, 1) := by decide +kernel
theorem dX9_peak_24 : decode cX9_peak 24 = .ok (.invokestatic 141, 3) := by decide +kernel
theorem dX9_peak_27 : decode cX9_peak 27 = .ok (.ifCond .ne 7, 3) := by decide +kernel
theorem dX9_peak_30 : decode cX9_peak 30 = .ok (.iconst 2, 1) := by decide +kernel
theorem dX9_peak_31 : decode cX9_peak 31 = .ok (.goto 4, 3) := by decide +kernel
theorem dX9_peak_34 : decode cX9_peak 34 = .ok (.iconst 0, 1) := by decide +kernel
theorem dX9_peak_35 : decode cX9_peak 35 = .ok (.invokevirtual 33, 3) := by decide +kernel
theorem dX9_peak_38 : decode cX9_peak 38 = .ok (.ifCond .eq 7, 3) := by decide +kernel
theorem dX9_peak_41 : decode cX9_peak 41 = .ok (.iconst 0, 1) := by decide +kernel
theorem dX9_peak_42 : decode cX9_peak 42 = .ok (.goto 10, 3) := by decide +kernel
theorem dX9_peak_45 : decode cX9_peak 45 = .ok (.aload_n 0, 1) := by decide +kernel
theorem dX9_peak_46 : decode cX9_peak 46 = .ok (.iload_n 1, 1) := by decide +kernel
theorem dX9_peak_47 : decode cX9_peak 47 = .ok (.iload_n 2, 1) := by decide +kernel
theorem dX9_peak_48 : decode cX9_peak 48 = .ok (.iload_n 3, 1) := by decide +kernel
theorem dX9_peak_49 : decode cX9_peak 49 = .ok (.invokevirtual 150, 3) := by decide +kernel
theorem dX9_peak_52 : decode cX9_peak 52 = .ok (.ireturn, 1) := by decide +kernel
set_option maxRecDepth 20000 in
theorem ggX9_bestOpening_X9_isAhead : GoodIn wsX9_bestOpening wsX9_isAhead := goodIn_r _ [4, 5, 6, 3, 7] (by decide +kernel) (by decide +kernel)
set_option maxRecDepth 20000 in
theorem gX9_bestOpening_X9_isAhead : GoodIn wsX9_bestOpening (va_wsS RX9 141 yX9_isAhead wsX9_isAhead) := goodIn_app (goodIn_of _ (by decide +kernel)) ggX9_bestOpening_X9_isAhead
set_option maxRecDepth 20000 in
theorem ggX9_bestOpening_X9_refused : GoodIn wsX9_bestOpening wsX9_refused := goodIn_r _ [11, 12, 112, 113, 114, 115, 116, 117, 118] (by decide +kernel) (by decide +kernel)
set_option maxRecDepth 20000 in
theorem gX9_bestOpening_X9_refused : GoodIn wsX9_bestOpening (wsV RX9 33 RX9 yX9_refused wsX9_refused) := goodIn_app (goodIn_of _ (by decide +kernel)) ggX9_bestOpening_X9_refused
set_option maxRecDepth 20000 in
theorem ggX9_bestOpening_X9_peakOf : GoodIn wsX9_bestOpening wsX9_peakOf := goodIn_r _ [16, 17, 18, 19, 20, 3, 21, 22, 23, 24, 25, 26, 27, 28, 29, 30, 31, 32, 33, 34, 35, 36, 37, 38, 39, 40, 41, 42, 43, 44, 45, 46, 47, 48, 49, 50, 51, 52, 53, 54, 55, 56, 57, 58, 59, 60, 61, 62, 63, 64, 65, 66, 67, 68, 69, 70, 71, 72, 73, 74, 75, 76, 77, 78, 79, 80, 81, 82, 83, 84, 85, 86, 87, 88, 89, 90, 91, 92, 93, 94, 95, 96, 97, 98, 99, 100, 101, 102, 103, 104, 105, 106, 107, 108, 109, 110, 111, 112, 113, 114, 115, 116, 117, 118] (by decide +kernel) (by decide +kernel)
set_option maxRecDepth 20000 in
theorem gX9_bestOpening_X9_peakOf : GoodIn wsX9_bestOpening (wsV RX9 150 RX9 yX9_peakOf wsX9_peakOf) := goodIn_app (goodIn_of _ (by decide +kernel)) ggX9_bestOpening_X9_peakOf
theorem dX9_bestOpening_0 : decode cX9_bestOpening 0 = .ok (.aload_n 0, 1) := by decide +kernel
theorem dX9_bestOpening_1 : decode cX9_bestOpening 1 = .ok (.iload_n 1, 1) := by decide +kernel
theorem dX9_bestOpening_2 : decode cX9_bestOpening 2 = .ok (.invokestatic 141, 3) := by decide +kernel
theorem dX9_bestOpening_5 : decode cX9_bestOpening 5 = .ok (.ifCond .eq 7, 3) := by decide +kernel
theorem dX9_bestOpening_8 : decode cX9_bestOpening 8 = .ok (.iconst 0, 1) := by decide +kernel
theorem dX9_bestOpening_9 : decode cX9_bestOpening 9 = .ok (.goto 4, 3) := by decide +kernel
theorem dX9_bestOpening_12 : decode cX9_bestOpening 12 = .ok (.iconst 1, 1) := by decide +kernel
theorem dX9_bestOpening_13 : decode cX9_bestOpening 13 = .ok (.invokevirtual 33, 3) := by decide +kernel
theorem dX9_bestOpening_16 : decode cX9_bestOpening 16 = .ok (.ifCond .eq 5, 3) := by decide +kernel
theorem dX9_bestOpening_19 : decode cX9_bestOpening 19 = .ok (.iconst 0, 1) := by decide +kernel
theorem dX9_bestOpening_20 : decode cX9_bestOpening 20 = .ok (.ireturn, 1) := by decide +kernel
theorem dX9_bestOpening_21 : decode cX9_bestOpening 21 = .ok (.iconst 0, 1) := by decide +kernel
theorem dX9_bestOpening_22 : decode cX9_bestOpening 22 = .ok (.istore_n 2, 1) := by decide +kernel
theorem dX9_bestOpening_23 : decode cX9_bestOpening 23 = .ok (.iconst 1, 1) := by decide +kernel
theorem dX9_bestOpening_24 : decode cX9_bestOpening 24 = .ok (.istore_n 3, 1) := by decide +kernel
theorem dX9_bestOpening_25 : decode cX9_bestOpening 25 = .ok (.iload_n 3, 1) := by decide +kernel
theorem dX9_bestOpening_26 : decode cX9_bestOpening 26 = .ok (.bipush 8, 2) := by decide +kernel
theorem dX9_bestOpening_28 : decode cX9_bestOpening 28 = .ok (.if_icmp .gt 32, 3) := by decide +kernel
theorem dX9_bestOpening_31 : decode cX9_bestOpening 31 = .ok (.aload_n 0, 1) := by decide +kernel
theorem dX9_bestOpening_32 : decode cX9_bestOpening 32 = .ok (.iconst 0, 1) := by decide +kernel
theorem dX9_bestOpening_33 : decode cX9_bestOpening 33 = .ok (.iload_n 3, 1) := by decide +kernel
theorem dX9_bestOpening_34 : decode cX9_bestOpening 34 = .ok (.iload_n 1, 1) := by decide +kernel
theorem dX9_bestOpening_35 : decode cX9_bestOpening 35 = .ok (.invokevirtual 150, 3) := by decide +kernel
theorem dX9_bestOpening_38 : decode cX9_bestOpening 38 = .ok (.aload_n 0, 1) := by decide +kernel
theorem dX9_bestOpening_39 : decode cX9_bestOpening 39 = .ok (.iconst 0, 1) := by decide +kernel
theorem dX9_bestOpening_40 : decode cX9_bestOpening 40 = .ok (.iload_n 2, 1) := by decide +kernel
theorem dX9_bestOpening_41 : decode cX9_bestOpening 41 = .ok (.iload_n 1, 1) := by decide +kernel
theorem dX9_bestOpening_42 : decode cX9_bestOpening 42 = .ok (.invokevirtual 150, 3) := by decide +kernel
theorem dX9_bestOpening_45 : decode cX9_bestOpening 45 = .ok (.if_icmp .ge 7, 3) := by decide +kernel
theorem dX9_bestOpening_48 : decode cX9_bestOpening 48 = .ok (.iload_n 3, 1) := by decide +kernel
theorem dX9_bestOpening_49 : decode cX9_bestOpening 49 = .ok (.goto 4, 3) := by decide +kernel
theorem dX9_bestOpening_52 : decode cX9_bestOpening 52 = .ok (.iload_n 2, 1) := by decide +kernel
theorem dX9_bestOpening_53 : decode cX9_bestOpening 53 = .ok (.istore_n 2, 1) := by decide +kernel
theorem dX9_bestOpening_54 : decode cX9_bestOpening 54 = .ok (.iinc 3 1, 3) := by decide +kernel
theorem dX9_bestOpening_57 : decode cX9_bestOpening 57 = .ok (.goto (-32), 3) := by decide +kernel
theorem dX9_bestOpening_60 : decode cX9_bestOpening 60 = .ok (.iload_n 2, 1) := by decide +kernel
theorem dX9_bestOpening_61 : decode cX9_bestOpening 61 = .ok (.ireturn, 1) := by decide +kernel
set_option maxRecDepth 20000 in
theorem ggX9_alarmsWith_X9_keeps : GoodIn wsX9_alarmsWith wsX9_keeps := goodIn_r _ [6, 7, 1, 97, 98, 99, 100, 101, 102, 103] (by decide +kernel) (by decide +kernel)
set_option maxRecDepth 20000 in
theorem gX9_alarmsWith_X9_keeps : GoodIn wsX9_alarmsWith (wsV RX9 144 RX9 yX9_keeps wsX9_keeps) := goodIn_app (goodIn_of _ (by decide +kernel)) ggX9_alarmsWith_X9_keeps
set_option maxRecDepth 20000 in
theorem ggX9_alarmsWith_X9_minutes : GoodIn wsX9_alarmsWith wsX9_minutes := goodIn_r _ [11, 1, 12, 13, 14, 5, 15, 16, 17, 18, 19, 20, 21, 22, 23, 24, 25, 26, 27, 28, 29, 30, 31, 32, 33, 34, 35, 36, 37, 38, 39, 40, 41, 42, 43, 44, 45, 46, 47, 48, 49, 50, 51, 52, 53, 54, 55, 56, 57, 58, 59, 60, 61, 62, 63, 64, 65, 66, 67, 68, 69, 70, 71, 72, 73, 74, 75, 76, 77, 78, 79, 80, 81, 82, 83, 84, 85, 86, 87, 88, 89, 90, 91, 92, 97, 98, 99, 100, 101, 102, 103] (by decide +kernel) (by decide +kernel)
set_option maxRecDepth 20000 in
theorem gX9_alarmsWith_X9_minutes : GoodIn wsX9_alarmsWith (wsV RX9 138 RX9 yX9_minutes wsX9_minutes) := goodIn_app (goodIn_of _ (by decide +kernel)) ggX9_alarmsWith_X9_minutes
set_option maxRecDepth 20000 in
theorem ggX9_alarmsWith_X9_hasAlarm : GoodIn wsX9_alarmsWith wsX9_hasAlarm := goodIn_r _ [19, 1, 97, 98, 99, 100, 101, 102, 103] (by decide +kernel) (by decide +kernel)
set_option maxRecDepth 20000 in
theorem gX9_alarmsWith_X9_hasAlarm : GoodIn wsX9_alarmsWith (wsV RX9 62 RX9 yX9_hasAlarm wsX9_hasAlarm) := goodIn_app (goodIn_of _ (by decide +kernel)) ggX9_alarmsWith_X9_hasAlarm
set_option maxRecDepth 20000 in
theorem ggX9_alarmsWith_X9_returns : GoodIn wsX9_alarmsWith wsX9_returns := goodIn_r _ [96, 1, 7, 97, 98, 99, 100, 101, 102, 103] (by decide +kernel) (by decide +kernel)
set_option maxRecDepth 20000 in
theorem gX9_alarmsWith_X9_returns : GoodIn wsX9_alarmsWith (wsV RX9 147 RX9 yX9_returns wsX9_returns) := goodIn_app (goodIn_of _ (by decide +kernel)) ggX9_alarmsWith_X9_returns
theorem dX9_alarmsWith_0 : decode cX9_alarmsWith 0 = .ok (.aload_n 0, 1) := by decide +kernel
theorem dX9_alarmsWith_1 : decode cX9_alarmsWith 1 = .ok (.invokevirtual 144, 3) := by decide +kernel
theorem dX9_alarmsWith_4 : decode cX9_alarmsWith 4 = .ok (.iload_n 3, 1) := by decide +kernel
theorem dX9_alarmsWith_5 : decode cX9_alarmsWith 5 = .ok (.iconst (-1), 1) := by decide +kernel
theorem dX9_alarmsWith_6 : decode cX9_alarmsWith 6 = .ok (.if_icmp .eq 18, 3) := by decide +kernel
theorem dX9_alarmsWith_9 : decode cX9_alarmsWith 9 = .ok (.aload_n 0, 1) := by decide +kernel
theorem dX9_alarmsWith_10 : decode cX9_alarmsWith 10 = .ok (.getfield 7, 3) := by decide +kernel
theorem dX9_alarmsWith_13 : decode cX9_alarmsWith 13 = .ok (.bipush 57, 2) := by decide +kernel
theorem dX9_alarmsWith_15 : decode cX9_alarmsWith 15 = .ok (.bipush 7, 2) := by decide +kernel
theorem dX9_alarmsWith_17 : decode cX9_alarmsWith 17 = .ok (.iload_n 3, 1) := by decide +kernel
theorem dX9_alarmsWith_18 : decode cX9_alarmsWith 18 = .ok (.imul, 1) := by decide +kernel
theorem dX9_alarmsWith_19 : decode cX9_alarmsWith 19 = .ok (.iadd, 1) := by decide +kernel
theorem dX9_alarmsWith_20 : decode cX9_alarmsWith 20 = .ok (.iconst 5, 1) := by decide +kernel
theorem dX9_alarmsWith_21 : decode cX9_alarmsWith 21 = .ok (.iadd, 1) := by decide +kernel
theorem dX9_alarmsWith_22 : decode cX9_alarmsWith 22 = .ok (.iconst 1, 1) := by decide +kernel
theorem dX9_alarmsWith_23 : decode cX9_alarmsWith 23 = .ok (.iastore, 1) := by decide +kernel
theorem dX9_alarmsWith_24 : decode cX9_alarmsWith 24 = .ok (.iconst 0, 1) := by decide +kernel
theorem dX9_alarmsWith_25 : decode cX9_alarmsWith 25 = .ok (.istore 4, 2) := by decide +kernel
theorem dX9_alarmsWith_27 : decode cX9_alarmsWith 27 = .ok (.iconst 0, 1) := by decide +kernel
theorem dX9_alarmsWith_28 : decode cX9_alarmsWith 28 = .ok (.istore 5, 2) := by decide +kernel
theorem dX9_alarmsWith_30 : decode cX9_alarmsWith 30 = .ok (.iload 5, 2) := by decide +kernel
theorem dX9_alarmsWith_32 : decode cX9_alarmsWith 32 = .ok (.iload_n 2, 1) := by decide +kernel
theorem dX9_alarmsWith_33 : decode cX9_alarmsWith 33 = .ok (.if_icmp .ge 27, 3) := by decide +kernel
theorem dX9_alarmsWith_36 : decode cX9_alarmsWith 36 = .ok (.iload 4, 2) := by decide +kernel
theorem dX9_alarmsWith_38 : decode cX9_alarmsWith 38 = .ok (.ifCond .ne 22, 3) := by decide +kernel
theorem dX9_alarmsWith_41 : decode cX9_alarmsWith 41 = .ok (.aload_n 0, 1) := by decide +kernel
theorem dX9_alarmsWith_42 : decode cX9_alarmsWith 42 = .ok (.invokevirtual 138, 3) := by decide +kernel
theorem dX9_alarmsWith_45 : decode cX9_alarmsWith 45 = .ok (.istore 6, 2) := by decide +kernel
theorem dX9_alarmsWith_47 : decode cX9_alarmsWith 47 = .ok (.aload_n 0, 1) := by decide +kernel
theorem dX9_alarmsWith_48 : decode cX9_alarmsWith 48 = .ok (.iload_n 1, 1) := by decide +kernel
theorem dX9_alarmsWith_49 : decode cX9_alarmsWith 49 = .ok (.invokevirtual 62, 3) := by decide +kernel
theorem dX9_alarmsWith_52 : decode cX9_alarmsWith 52 = .ok (.istore 4, 2) := by decide +kernel
theorem dX9_alarmsWith_54 : decode cX9_alarmsWith 54 = .ok (.iinc 5 1, 3) := by decide +kernel
theorem dX9_alarmsWith_57 : decode cX9_alarmsWith 57 = .ok (.goto (-27), 3) := by decide +kernel
theorem dX9_alarmsWith_60 : decode cX9_alarmsWith 60 = .ok (.aload_n 0, 1) := by decide +kernel
theorem dX9_alarmsWith_61 : decode cX9_alarmsWith 61 = .ok (.invokevirtual 147, 3) := by decide +kernel
theorem dX9_alarmsWith_64 : decode cX9_alarmsWith 64 = .ok (.iload 4, 2) := by decide +kernel
theorem dX9_alarmsWith_66 : decode cX9_alarmsWith 66 = .ok (.ireturn, 1) := by decide +kernel
set_option maxRecDepth 20000 in
theorem ggX9_neededSensors_X9_isRoom : GoodIn wsX9_neededSensors wsX9_isRoom := goodIn_r _ [6, 1, 7, 8, 5, 9, 116, 117, 118, 119, 120, 121, 122] (by decide +kernel) (by decide +kernel)
set_option maxRecDepth 20000 in
theorem gX9_neededSensors_X9_isRoom : GoodIn wsX9_neededSensors (wsV RX9 119 RX9 yX9_isRoom wsX9_isRoom) := goodIn_app (goodIn_of _ (by decide +kernel)) ggX9_neededSensors_X9_isRoom
set_option maxRecDepth 20000 in
theorem ggX9_neededSensors_X9_isAhead : GoodIn wsX9_neededSensors wsX9_isAhead := goodIn_r _ [12, 7, 8, 5, 9] (by decide +kernel) (by decide +kernel)
set_option maxRecDepth 20000 in
theorem gX9_neededSensors_X9_isAhead : GoodIn wsX9_neededSensors (va_wsS RX9 141 yX9_isAhead wsX9_isAhead) := goodIn_app (goodIn_of _ (by decide +kernel)) ggX9_neededSensors_X9_isAhead
set_option maxRecDepth 20000 in
theorem ggX9_neededSensors_X9_refused : GoodIn wsX9_neededSensors wsX9_refused := goodIn_r _ [16, 17, 116, 117, 118, 119, 120, 121, 122] (by decide +kernel) (by decide +kernel)
set_option maxRecDepth 20000 in
theorem gX9_neededSensors_X9_refused : GoodIn wsX9_neededSensors (wsV RX9 33 RX9 yX9_refused wsX9_refused) := goodIn_app (goodIn_of _ (by decide +kernel)) ggX9_neededSensors_X9_refused
set_option maxRecDepth 20000 in
theorem ggX9_neededSensors_X9_alarmsWith : GoodIn wsX9_neededSensors wsX9_alarmsWith := goodIn_r _ [21, 1, 22, 23, 24, 5, 25, 26, 27, 28, 29, 30, 31, 32, 33, 34, 35, 36, 37, 38, 39, 40, 41, 42, 43, 44, 45, 46, 47, 48, 49, 50, 51, 52, 53, 54, 55, 56, 57, 58, 59, 60, 61, 62, 63, 64, 65, 66, 67, 68, 69, 70, 71, 72, 73, 74, 75, 76, 77, 78, 79, 80, 81, 82, 83, 84, 85, 86, 87, 88, 89, 90, 91, 92, 93, 94, 95, 96, 97, 98, 99, 100, 101, 102, 103, 104, 105, 106, 107, 108, 109, 110, 111, 112, 113, 114, 115, 116, 117, 118, 119, 120, 121, 122] (by decide +kernel) (by decide +kernel)
set_option maxRecDepth 20000 in
theorem gX9_neededSensors_X9_alarmsWith : GoodIn wsX9_neededSensors (wsV RX9 154 RX9 yX9_alarmsWith wsX9_alarmsWith) := goodIn_app (goodIn_of _ (by decide +kernel)) ggX9_neededSensors_X9_alarmsWith
theorem dX9_neededSensors_0 : decode cX9_neededSensors 0 = .ok (.aload_n 0, 1) := by decide +kernel
theorem dX9_neededSensors_1 : decode cX9_neededSensors 1 = .ok (.aload_n 0, 1) := by decide +kernel
theorem dX9_neededSensors_2 : decode cX9_neededSensors 2 = .ok (.iload_n 1, 1) := by decide +kernel
theorem dX9_neededSensors_3 : decode cX9_neededSensors 3 = .ok (.invokevirtual 119, 3) := by decide +kernel
theorem dX9_neededSensors_6 : decode cX9_neededSensors 6 = .ok (.ifCond .ne 7, 3) := by decide +kernel
theorem dX9_neededSensors_9 : decode cX9_neededSensors 9 = .ok (.iconst 1, 1) := by decide +kernel
theorem dX9_neededSensors_10 : decode cX9_neededSensors 10 = .ok (.goto 15, 3) := by decide +kernel
theorem dX9_neededSensors_13 : decode cX9_neededSensors 13 = .ok (.iload_n 2, 1) := by decide +kernel
theorem dX9_neededSensors_14 : decode cX9_neededSensors 14 = .ok (.invokestatic 141, 3) := by decide +kernel
theorem dX9_neededSensors_17 : decode cX9_neededSensors 17 = .ok (.ifCond .ne 7, 3) := by decide +kernel
theorem dX9_neededSensors_20 : decode cX9_neededSensors 20 = .ok (.iconst 2, 1) := by decide +kernel
theorem dX9_neededSensors_21 : decode cX9_neededSensors 21 = .ok (.goto 4, 3) := by decide +kernel
theorem dX9_neededSensors_24 : decode cX9_neededSensors 24 = .ok (.iconst 0, 1) := by decide +kernel
theorem dX9_neededSensors_25 : decode cX9_neededSensors 25 = .ok (.invokevirtual 33, 3) := by decide +kernel
theorem dX9_neededSensors_28 : decode cX9_neededSensors 28 = .ok (.ifCond .eq 5, 3) := by decide +kernel
theorem dX9_neededSensors_31 : decode cX9_neededSensors 31 = .ok (.iconst 0, 1) := by decide +kernel
theorem dX9_neededSensors_32 : decode cX9_neededSensors 32 = .ok (.ireturn, 1) := by decide +kernel
theorem dX9_neededSensors_33 : decode cX9_neededSensors 33 = .ok (.iconst 0, 1) := by decide +kernel
theorem dX9_neededSensors_34 : decode cX9_neededSensors 34 = .ok (.istore_n 3, 1) := by decide +kernel
theorem dX9_neededSensors_35 : decode cX9_neededSensors 35 = .ok (.aload_n 0, 1) := by decide +kernel
theorem dX9_neededSensors_36 : decode cX9_neededSensors 36 = .ok (.iload_n 1, 1) := by decide +kernel
theorem dX9_neededSensors_37 : decode cX9_neededSensors 37 = .ok (.iload_n 2, 1) := by decide +kernel
theorem dX9_neededSensors_38 : decode cX9_neededSensors 38 = .ok (.iconst (-1), 1) := by decide +kernel
theorem dX9_neededSensors_39 : decode cX9_neededSensors 39 = .ok (.invokevirtual 154, 3) := by decide +kernel
theorem dX9_neededSensors_42 : decode cX9_neededSensors 42 = .ok (.ifCond .eq 46, 3) := by decide +kernel
theorem dX9_neededSensors_45 : decode cX9_neededSensors 45 = .ok (.iconst 0, 1) := by decide +kernel
theorem dX9_neededSensors_46 : decode cX9_neededSensors 46 = .ok (.istore 4, 2) := by decide +kernel
theorem dX9_neededSensors_48 : decode cX9_neededSensors 48 = .ok (.iload 4, 2) := by decide +kernel
theorem dX9_neededSensors_50 : decode cX9_neededSensors 50 = .ok (.aload_n 0, 1) := by decide +kernel
theorem dX9_neededSensors_51 : decode cX9_neededSensors 51 = .ok (.getfield 7, 3) := by decide +kernel
theorem dX9_neededSensors_54 : decode cX9_neededSensors 54 = .ok (.bipush 10, 2) := by decide +kernel
theorem dX9_neededSensors_56 : decode cX9_neededSensors 56 = .ok (.iaload, 1) := by decide +kernel
theorem dX9_neededSensors_57 : decode cX9_neededSensors 57 = .ok (.if_icmp .ge 31, 3) := by decide +kernel
theorem dX9_neededSensors_60 : decode cX9_neededSensors 60 = .ok (.iload_n 3, 1) := by decide +kernel
theorem dX9_neededSensors_61 : decode cX9_neededSensors 61 = .ok (.aload_n 0, 1) := by decide +kernel
theorem dX9_neededSensors_62 : decode cX9_neededSensors 62 = .ok (.iload_n 1, 1) := by decide +kernel
theorem dX9_neededSensors_63 : decode cX9_neededSensors 63 = .ok (.iload_n 2, 1) := by decide +kernel
theorem dX9_neededSensors_64 : decode cX9_neededSensors 64 = .ok (.iload 4, 2) := by decide +kernel
theorem dX9_neededSensors_66 : decode cX9_neededSensors 66 = .ok (.invokevirtual 154, 3) := by decide +kernel
theorem dX9_neededSensors_69 : decode cX9_neededSensors 69 = .ok (.ifCond .eq 7, 3) := by decide +kernel
theorem dX9_neededSensors_72 : decode cX9_neededSensors 72 = .ok (.iconst 0, 1) := by decide +kernel
theorem dX9_neededSensors_73 : decode cX9_neededSensors 73 = .ok (.goto 7, 3) := by decide +kernel
theorem dX9_neededSensors_76 : decode cX9_neededSensors 76 = .ok (.iconst 1, 1) := by decide +kernel
theorem dX9_neededSensors_77 : decode cX9_neededSensors 77 = .ok (.iload 4, 2) := by decide +kernel
theorem dX9_neededSensors_79 : decode cX9_neededSensors 79 = .ok (.ishl, 1) := by decide +kernel
theorem dX9_neededSensors_80 : decode cX9_neededSensors 80 = .ok (.ior, 1) := by decide +kernel
theorem dX9_neededSensors_81 : decode cX9_neededSensors 81 = .ok (.istore_n 3, 1) := by decide +kernel
theorem dX9_neededSensors_82 : decode cX9_neededSensors 82 = .ok (.iinc 4 1, 3) := by decide +kernel
theorem dX9_neededSensors_85 : decode cX9_neededSensors 85 = .ok (.goto (-37), 3) := by decide +kernel
theorem dX9_neededSensors_88 : decode cX9_neededSensors 88 = .ok (.iload_n 3, 1) := by decide +kernel
theorem dX9_neededSensors_89 : decode cX9_neededSensors 89 = .ok (.ireturn, 1) := by decide +kernel
set_option maxRecDepth 20000 in
theorem ggX9_burnsFor_X9_isAhead : GoodIn wsX9_burnsFor wsX9_isAhead := goodIn_r _ [5, 6, 7, 4, 8] (by decide +kernel) (by decide +kernel)
set_option maxRecDepth 20000 in
theorem gX9_burnsFor_X9_isAhead : GoodIn wsX9_burnsFor (va_wsS RX9 141 yX9_isAhead wsX9_isAhead) := goodIn_app (goodIn_of _ (by decide +kernel)) ggX9_burnsFor_X9_isAhead
set_option maxRecDepth 20000 in
theorem ggX9_burnsFor_X9_refused : GoodIn wsX9_burnsFor wsX9_refused := goodIn_r _ [12, 13, 108, 109, 110, 111, 112, 113, 114] (by decide +kernel) (by decide +kernel)
set_option maxRecDepth 20000 in
theorem gX9_burnsFor_X9_refused : GoodIn wsX9_burnsFor (wsV RX9 33 RX9 yX9_refused wsX9_refused) := goodIn_app (goodIn_of _ (by decide +kernel)) ggX9_burnsFor_X9_refused
set_option maxRecDepth 20000 in
theorem ggX9_burnsFor_X9_keeps : GoodIn wsX9_burnsFor wsX9_keeps := goodIn_r _ [17, 18, 1, 108, 109, 110, 111, 112, 113, 114] (by decide +kernel) (by decide +kernel)
set_option maxRecDepth 20000 in
theorem gX9_burnsFor_X9_keeps : GoodIn wsX9_burnsFor (wsV RX9 144 RX9 yX9_keeps wsX9_keeps) := goodIn_app (goodIn_of _ (by decide +kernel)) ggX9_burnsFor_X9_keeps
set_option maxRecDepth 20000 in
theorem ggX9_burnsFor_X9_minutes : GoodIn wsX9_burnsFor wsX9_minutes := goodIn_r _ [22, 1, 23, 24, 25, 4, 26, 27, 28, 29, 30, 31, 32, 33, 34, 35, 36, 37, 38, 39, 40, 41, 42, 43, 44, 45, 46, 47, 48, 49, 50, 51, 52, 53, 54, 55, 56, 57, 58, 59, 60, 61, 62, 63, 64, 65, 66, 67, 68, 69, 70, 71, 72, 73, 74, 75, 76, 77, 78, 79, 80, 81, 82, 83, 84, 85, 86, 87, 88, 89, 90, 91, 92, 93, 94, 95, 96, 97, 98, 99, 100, 101, 102, 103, 108, 109, 110, 111, 112, 113, 114] (by decide +kernel) (by decide +kernel)
set_option maxRecDepth 20000 in
theorem gX9_burnsFor_X9_minutes : GoodIn wsX9_burnsFor (wsV RX9 138 RX9 yX9_minutes wsX9_minutes) := goodIn_app (goodIn_of _ (by decide +kernel)) ggX9_burnsFor_X9_minutes
set_option maxRecDepth 20000 in
theorem ggX9_burnsFor_X9_returns : GoodIn wsX9_burnsFor wsX9_returns := goodIn_r _ [107, 1, 18, 108, 109, 110, 111, 112, 113, 114] (by decide +kernel) (by decide +kernel)
set_option maxRecDepth 20000 in
theorem gX9_burnsFor_X9_returns : GoodIn wsX9_burnsFor (wsV RX9 147 RX9 yX9_returns wsX9_returns) := goodIn_app (goodIn_of _ (by decide +kernel)) ggX9_burnsFor_X9_returns
theorem dX9_burnsFor_0 : decode cX9_burnsFor 0 = .ok (.aload_n 0, 1) := by decide +kernel
theorem dX9_burnsFor_1 : decode cX9_burnsFor 1 = .ok (.iload_n 1, 1) := by decide +kernel
theorem dX9_burnsFor_2 : decode cX9_burnsFor 2 = .ok (.invokestatic 141, 3) := by decide +kernel
theorem dX9_burnsFor_5 : decode cX9_burnsFor 5 = .ok (.ifCond .eq 7, 3) := by decide +kernel
theorem dX9_burnsFor_8 : decode cX9_burnsFor 8 = .ok (.iconst 0, 1) := by decide +kernel
theorem dX9_burnsFor_9 : decode cX9_burnsFor 9 = .ok (.goto 4, 3) := by decide +kernel
theorem dX9_burnsFor_12 : decode cX9_burnsFor 12 = .ok (.iconst 1, 1) := by decide +kernel
theorem dX9_burnsFor_13 : decode cX9_burnsFor 13 = .ok (.invokevirtual 33, 3) := by decide +kernel
theorem dX9_burnsFor_16 : decode cX9_burnsFor 16 = .ok (.ifCond .eq 5, 3) := by decide +kernel
theorem dX9_burnsFor_19 : decode cX9_burnsFor 19 = .ok (.iconst 0, 1) := by decide +kernel
theorem dX9_burnsFor_20 : decode cX9_burnsFor 20 = .ok (.ireturn, 1) := by decide +kernel
theorem dX9_burnsFor_21 : decode cX9_burnsFor 21 = .ok (.aload_n 0, 1) := by decide +kernel
theorem dX9_burnsFor_22 : decode cX9_burnsFor 22 = .ok (.invokevirtual 144, 3) := by decide +kernel
theorem dX9_burnsFor_25 : decode cX9_burnsFor 25 = .ok (.iconst 0, 1) := by decide +kernel
theorem dX9_burnsFor_26 : decode cX9_burnsFor 26 = .ok (.istore_n 2, 1) := by decide +kernel
theorem dX9_burnsFor_27 : decode cX9_burnsFor 27 = .ok (.iload_n 2, 1) := by decide +kernel
theorem dX9_burnsFor_28 : decode cX9_burnsFor 28 = .ok (.iload_n 1, 1) := by decide +kernel
theorem dX9_burnsFor_29 : decode cX9_burnsFor 29 = .ok (.if_icmp .ge 24, 3) := by decide +kernel
theorem dX9_burnsFor_32 : decode cX9_burnsFor 32 = .ok (.aload_n 0, 1) := by decide +kernel
theorem dX9_burnsFor_33 : decode cX9_burnsFor 33 = .ok (.getfield 7, 3) := by decide +kernel
theorem dX9_burnsFor_36 : decode cX9_burnsFor 36 = .ok (.bipush 8, 2) := by decide +kernel
theorem dX9_burnsFor_38 : decode cX9_burnsFor 38 = .ok (.iaload, 1) := by decide +kernel
theorem dX9_burnsFor_39 : decode cX9_burnsFor 39 = .ok (.ifCond .le 14, 3) := by decide +kernel
theorem dX9_burnsFor_42 : decode cX9_burnsFor 42 = .ok (.aload_n 0, 1) := by decide +kernel
theorem dX9_burnsFor_43 : decode cX9_burnsFor 43 = .ok (.invokevirtual 138, 3) := by decide +kernel
theorem dX9_burnsFor_46 : decode cX9_burnsFor 46 = .ok (.istore_n 3, 1) := by decide +kernel
theorem dX9_burnsFor_47 : decode cX9_burnsFor 47 = .ok (.iinc 2 1, 3) := by decide +kernel
theorem dX9_burnsFor_50 : decode cX9_burnsFor 50 = .ok (.goto (-23), 3) := by decide +kernel
theorem dX9_burnsFor_53 : decode cX9_burnsFor 53 = .ok (.aload_n 0, 1) := by decide +kernel
theorem dX9_burnsFor_54 : decode cX9_burnsFor 54 = .ok (.getfield 7, 3) := by decide +kernel
theorem dX9_burnsFor_57 : decode cX9_burnsFor 57 = .ok (.bipush 8, 2) := by decide +kernel
theorem dX9_burnsFor_59 : decode cX9_burnsFor 59 = .ok (.iaload, 1) := by decide +kernel
theorem dX9_burnsFor_60 : decode cX9_burnsFor 60 = .ok (.ifCond .ne 7, 3) := by decide +kernel
theorem dX9_burnsFor_63 : decode cX9_burnsFor 63 = .ok (.iconst 1, 1) := by decide +kernel
theorem dX9_burnsFor_64 : decode cX9_burnsFor 64 = .ok (.goto 4, 3) := by decide +kernel
theorem dX9_burnsFor_67 : decode cX9_burnsFor 67 = .ok (.iconst 0, 1) := by decide +kernel
theorem dX9_burnsFor_68 : decode cX9_burnsFor 68 = .ok (.istore_n 3, 1) := by decide +kernel
theorem dX9_burnsFor_69 : decode cX9_burnsFor 69 = .ok (.aload_n 0, 1) := by decide +kernel
theorem dX9_burnsFor_70 : decode cX9_burnsFor 70 = .ok (.invokevirtual 147, 3) := by decide +kernel
theorem dX9_burnsFor_73 : decode cX9_burnsFor 73 = .ok (.iload_n 3, 1) := by decide +kernel
theorem dX9_burnsFor_74 : decode cX9_burnsFor 74 = .ok (.ifCond .eq 7, 3) := by decide +kernel
theorem dX9_burnsFor_77 : decode cX9_burnsFor 77 = .ok (.iload_n 2, 1) := by decide +kernel
theorem dX9_burnsFor_78 : decode cX9_burnsFor 78 = .ok (.goto 4, 3) := by decide +kernel
theorem dX9_burnsFor_81 : decode cX9_burnsFor 81 = .ok (.iconst (-1), 1) := by decide +kernel
theorem dX9_burnsFor_82 : decode cX9_burnsFor 82 = .ok (.ireturn, 1) := by decide +kernel
theorem dX9_mix_0 : decode cX9_mix 0 = .ok (.aload_n 0, 1) := by decide +kernel
theorem dX9_mix_1 : decode cX9_mix 1 = .ok (.ldc2_w 157, 3) := by decide +kernel
theorem dX9_mix_4 : decode cX9_mix 4 = .ok (.aload_n 0, 1) := by decide +kernel
theorem dX9_mix_5 : decode cX9_mix 5 = .ok (.getfield 159, 3) := by decide +kernel
theorem dX9_mix_8 : decode cX9_mix 8 = .ok (.lmul, 1) := by decide +kernel
theorem dX9_mix_9 : decode cX9_mix 9 = .ok (.iload_n 1, 1) := by decide +kernel
theorem dX9_mix_10 : decode cX9_mix 10 = .ok (.i2l, 1) := by decide +kernel
theorem dX9_mix_11 : decode cX9_mix 11 = .ok (.ladd, 1) := by decide +kernel
theorem dX9_mix_12 : decode cX9_mix 12 = .ok (.putfield 159, 3) := by decide +kernel
theorem dX9_mix_15 : decode cX9_mix 15 = .ok (.return_, 1) := by decide +kernel
set_option maxRecDepth 20000 in
theorem ggX9_checksum_X9_number : GoodIn wsX9_checksum wsX9_number := goodIn_r _ [10, 4, 11, 12, 13, 9, 14, 15, 16, 17, 18, 72, 73, 74, 75, 76, 77, 78] (by decide +kernel) (by decide +kernel)
set_option maxRecDepth 20000 in
theorem gX9_checksum_X9_number : GoodIn wsX9_checksum (wsV RX9 122 RX9 yX9_number wsX9_number) := goodIn_app (goodIn_of _ (by decide +kernel)) ggX9_checksum_X9_number
set_option maxRecDepth 20000 in
theorem ggX9_checksum_X9_mix : GoodIn wsX9_checksum wsX9_mix := goodIn_r _ [22, 23, 3, 72, 73, 74, 75, 76, 77, 78] (by decide +kernel) (by decide +kernel)
set_option maxRecDepth 20000 in
theorem gX9_checksum_X9_mix : GoodIn wsX9_checksum (wsV RX9 165 RX9 yX9_mix wsX9_mix) := goodIn_app (goodIn_of _ (by decide +kernel)) ggX9_checksum_X9_mix
set_option maxRecDepth 20000 in
theorem ggX9_checksum_X9_roomTold : GoodIn wsX9_checksum wsX9_roomTold := goodIn_r _ [27, 4, 28, 29, 30, 9, 31, 32, 33, 34, 35, 36, 37, 38, 39, 40, 41, 42, 43, 44, 45, 46, 47, 48, 49, 50, 51, 72, 73, 74, 75, 76, 77, 78] (by decide +kernel) (by decide +kernel)
set_option maxRecDepth 20000 in
theorem gX9_checksum_X9_roomTold : GoodIn wsX9_checksum (wsV RX9 125 RX9 yX9_roomTold wsX9_roomTold) := goodIn_app (goodIn_of _ (by decide +kernel)) ggX9_checksum_X9_roomTold
set_option maxRecDepth 20000 in
theorem ggX9_checksum_X9_isDoorOpen : GoodIn wsX9_checksum wsX9_isDoorOpen := goodIn_r _ [55, 4, 72, 73, 74, 75, 76, 77, 78] (by decide +kernel) (by decide +kernel)
set_option maxRecDepth 20000 in
theorem gX9_checksum_X9_isDoorOpen : GoodIn wsX9_checksum (wsV RX9 68 RX9 yX9_isDoorOpen wsX9_isDoorOpen) := goodIn_app (goodIn_of _ (by decide +kernel)) ggX9_checksum_X9_isDoorOpen
set_option maxRecDepth 20000 in
theorem ggX9_checksum_X9_sensorTold : GoodIn wsX9_checksum wsX9_sensorTold := goodIn_r _ [59, 40, 41, 42, 9, 43, 4, 60, 61, 62, 63, 15, 16, 17, 18, 11, 12, 13, 14, 44, 45, 46, 47, 72, 73, 74, 75, 76, 77, 78] (by decide +kernel) (by decide +kernel)
set_option maxRecDepth 20000 in
theorem gX9_checksum_X9_sensorTold : GoodIn wsX9_checksum (wsV RX9 131 RX9 yX9_sensorTold wsX9_sensorTold) := goodIn_app (goodIn_of _ (by decide +kernel)) ggX9_checksum_X9_sensorTold
set_option maxRecDepth 20000 in
theorem ggX9_checksum_X9_firstRule : GoodIn wsX9_checksum wsX9_firstRule := goodIn_r _ [67, 4, 68, 69, 70, 9, 71, 15, 16, 17, 18, 28, 29, 30, 31, 11, 12, 13, 14, 72, 73, 74, 75, 76, 77, 78] (by decide +kernel) (by decide +kernel)
set_option maxRecDepth 20000 in
theorem gX9_checksum_X9_firstRule : GoodIn wsX9_checksum (wsV RX9 86 RX9 yX9_firstRule wsX9_firstRule) := goodIn_app (goodIn_of _ (by decide +kernel)) ggX9_checksum_X9_firstRule
theorem dX9_checksum_0 : decode cX9_checksum 0 = .ok (.aload_n 0, 1) := by decide +kernel
theorem dX9_checksum_1 : decode cX9_checksum 1 = .ok (.iconst 0, 1) := by decide +kernel
theorem dX9_checksum_2 : decode cX9_checksum 2 = .ok (.putfield 26, 3) := by decide +kernel
theorem dX9_checksum_5 : decode cX9_checksum 5 = .ok (.aload_n 0, 1) := by decide +kernel
theorem dX9_checksum_6 : decode cX9_checksum 6 = .ok (.ldc2_w 163, 3) := by decide +kernel
theorem dX9_checksum_9 : decode cX9_checksum 9 = .ok (.putfield 159, 3) := by decide +kernel
theorem dX9_checksum_12 : decode cX9_checksum 12 = .ok (.iconst 0, 1) := by decide +kernel
theorem dX9_checksum_13 : decode cX9_checksum 13 = .ok (.istore_n 1, 1) := by decide +kernel
theorem dX9_checksum_14 : decode cX9_checksum 14 = .ok (.iload_n 1, 1) := by decide +kernel
theorem dX9_checksum_15 : decode cX9_checksum 15 = .ok (.bipush 15, 2) := by decide +kernel
theorem dX9_checksum_17 : decode cX9_checksum 17 = .ok (.if_icmp .ge 18, 3) := by decide +kernel
theorem dX9_checksum_20 : decode cX9_checksum 20 = .ok (.aload_n 0, 1) := by decide +kernel
theorem dX9_checksum_21 : decode cX9_checksum 21 = .ok (.aload_n 0, 1) := by decide +kernel
theorem dX9_checksum_22 : decode cX9_checksum 22 = .ok (.iload_n 1, 1) := by decide +kernel
theorem dX9_checksum_23 : decode cX9_checksum 23 = .ok (.invokevirtual 122, 3) := by decide +kernel
theorem dX9_checksum_26 : decode cX9_checksum 26 = .ok (.invokevirtual 165, 3) := by decide +kernel
theorem dX9_checksum_29 : decode cX9_checksum 29 = .ok (.iinc 1 1, 3) := by decide +kernel
theorem dX9_checksum_32 : decode cX9_checksum 32 = .ok (.goto (-18), 3) := by decide +kernel
theorem dX9_checksum_35 : decode cX9_checksum 35 = .ok (.iconst 0, 1) := by decide +kernel
theorem dX9_checksum_36 : decode cX9_checksum 36 = .ok (.istore_n 1, 1) := by decide +kernel
theorem dX9_checksum_37 : decode cX9_checksum 37 = .ok (.iload_n 1, 1) := by decide +kernel
theorem dX9_checksum_38 : decode cX9_checksum 38 = .ok (.aload_n 0, 1) := by decide +kernel
theorem dX9_checksum_39 : decode cX9_checksum 39 = .ok (.getfield 7, 3) := by decide +kernel
theorem dX9_checksum_42 : decode cX9_checksum 42 = .ok (.bipush 6, 2) := by decide +kernel
theorem dX9_checksum_44 : decode cX9_checksum 44 = .ok (.iaload, 1) := by decide +kernel
theorem dX9_checksum_45 : decode cX9_checksum 45 = .ok (.if_icmp .ge 72, 3) := by decide +kernel
theorem dX9_checksum_48 : decode cX9_checksum 48 = .ok (.iconst 0, 1) := by decide +kernel
theorem dX9_checksum_49 : decode cX9_checksum 49 = .ok (.istore_n 2, 1) := by decide +kernel
theorem dX9_checksum_50 : decode cX9_checksum 50 = .ok (.iload_n 2, 1) := by decide +kernel
theorem dX9_checksum_51 : decode cX9_checksum 51 = .ok (.bipush 7, 2) := by decide +kernel
theorem dX9_checksum_53 : decode cX9_checksum 53 = .ok (.if_icmp .ge 19, 3) := by decide +kernel
theorem dX9_checksum_56 : decode cX9_checksum 56 = .ok (.aload_n 0, 1) := by decide +kernel
theorem dX9_checksum_57 : decode cX9_checksum 57 = .ok (.aload_n 0, 1) := by decide +kernel
theorem dX9_checksum_58 : decode cX9_checksum 58 = .ok (.iload_n 1, 1) := by decide +kernel
theorem dX9_checksum_59 : decode cX9_checksum 59 = .ok (.iload_n 2, 1) := by decide +kernel
theorem dX9_checksum_60 : decode cX9_checksum 60 = .ok (.invokevirtual 125, 3) := by decide +kernel
theorem dX9_checksum_63 : decode cX9_checksum 63 = .ok (.invokevirtual 165, 3) := by decide +kernel
theorem dX9_checksum_66 : decode cX9_checksum 66 = .ok (.iinc 2 1, 3) := by decide +kernel
theorem dX9_checksum_69 : decode cX9_checksum 69 = .ok (.goto (-19), 3) := by decide +kernel
theorem dX9_checksum_72 : decode cX9_checksum 72 = .ok (.iload_n 1, 1) := by decide +kernel
theorem dX9_checksum_73 : decode cX9_checksum 73 = .ok (.iconst 1, 1) := by decide +kernel
theorem dX9_checksum_74 : decode cX9_checksum 74 = .ok (.iadd, 1) := by decide +kernel
theorem dX9_checksum_75 : decode cX9_checksum 75 = .ok (.istore_n 2, 1) := by decide +kernel
theorem dX9_checksum_76 : decode cX9_checksum 76 = .ok (.iload_n 2, 1) := by decide +kernel
theorem dX9_checksum_77 : decode cX9_checksum 77 = .ok (.aload_n 0, 1) := by decide +kernel
theorem dX9_checksum_78 : decode cX9_checksum 78 = .ok (.getfield 7, 3) := by decide +kernel
theorem dX9_checksum_81 : decode cX9_checksum 81 = .ok (.bipush 6, 2) := by decide +kernel
theorem dX9_checksum_83 : decode cX9_checksum 83 = .ok (.iaload, 1) := by decide +kernel
theorem dX9_checksum_84 : decode cX9_checksum 84 = .ok (.if_icmp .gt 27, 3) := by decide +kernel
theorem dX9_checksum_87 : decode cX9_checksum 87 = .ok (.aload_n 0, 1) := by decide +kernel
theorem dX9_checksum_88 : decode cX9_checksum 88 = .ok (.aload_n 0, 1) := by decide +kernel
theorem dX9_checksum_89 : decode cX9_checksum 89 = .ok (.iload_n 1, 1) := by decide +kernel
theorem dX9_checksum_90 : decode cX9_checksum 90 = .ok (.iload_n 2, 1) := by decide +kernel
theorem dX9_checksum_91 : decode cX9_checksum 91 = .ok (.invokevirtual 68, 3) := by decide +kernel
theorem dX9_checksum_94 : decode cX9_checksum 94 = .ok (.ifCond .eq 7, 3) := by decide +kernel
theorem dX9_checksum_97 : decode cX9_checksum 97 = .ok (.iconst 1, 1) := by decide +kernel
theorem dX9_checksum_98 : decode cX9_checksum 98 = .ok (.goto 4, 3) := by decide +kernel
theorem dX9_checksum_101 : decode cX9_checksum 101 = .ok (.iconst 0, 1) := by decide +kernel
theorem dX9_checksum_102 : decode cX9_checksum 102 = .ok (.invokevirtual 165, 3) := by decide +kernel
theorem dX9_checksum_105 : decode cX9_checksum 105 = .ok (.iinc 2 1, 3) := by decide +kernel
theorem dX9_checksum_108 : decode cX9_checksum 108 = .ok (.goto (-32), 3) := by decide +kernel
theorem dX9_checksum_111 : decode cX9_checksum 111 = .ok (.iinc 1 1, 3) := by decide +kernel
theorem dX9_checksum_114 : decode cX9_checksum 114 = .ok (.goto (-77), 3) := by decide +kernel
theorem dX9_checksum_117 : decode cX9_checksum 117 = .ok (.iconst 0, 1) := by decide +kernel
theorem dX9_checksum_118 : decode cX9_checksum 118 = .ok (.istore_n 1, 1) := by decide +kernel
theorem dX9_checksum_119 : decode cX9_checksum 119 = .ok (.iload_n 1, 1) := by decide +kernel
theorem dX9_checksum_120 : decode cX9_checksum 120 = .ok (.aload_n 0, 1) := by decide +kernel
theorem dX9_checksum_121 : decode cX9_checksum 121 = .ok (.getfield 7, 3) := by decide +kernel
theorem dX9_checksum_124 : decode cX9_checksum 124 = .ok (.bipush 10, 2) := by decide +kernel
theorem dX9_checksum_126 : decode cX9_checksum 126 = .ok (.iaload, 1) := by decide +kernel
theorem dX9_checksum_127 : decode cX9_checksum 127 = .ok (.if_icmp .ge 33, 3) := by decide +kernel
theorem dX9_checksum_130 : decode cX9_checksum 130 = .ok (.iconst 0, 1) := by decide +kernel
theorem dX9_checksum_131 : decode cX9_checksum 131 = .ok (.istore_n 2, 1) := by decide +kernel
theorem dX9_checksum_132 : decode cX9_checksum 132 = .ok (.iload_n 2, 1) := by decide +kernel
theorem dX9_checksum_133 : decode cX9_checksum 133 = .ok (.bipush 9, 2) := by decide +kernel
theorem dX9_checksum_135 : decode cX9_checksum 135 = .ok (.if_icmp .ge 19, 3) := by decide +kernel
theorem dX9_checksum_138 : decode cX9_checksum 138 = .ok (.aload_n 0, 1) := by decide +kernel
theorem dX9_checksum_139 : decode cX9_checksum 139 = .ok (.aload_n 0, 1) := by decide +kernel
theorem dX9_checksum_140 : decode cX9_checksum 140 = .ok (.iload_n 1, 1) := by decide +kernel
theorem dX9_checksum_141 : decode cX9_checksum 141 = .ok (.iload_n 2, 1) := by decide +kernel
theorem dX9_checksum_142 : decode cX9_checksum 142 = .ok (.invokevirtual 131, 3) := by decide +kernel
theorem dX9_checksum_145 : decode cX9_checksum 145 = .ok (.invokevirtual 165, 3) := by decide +kernel
theorem dX9_checksum_148 : decode cX9_checksum 148 = .ok (.iinc 2 1, 3) := by decide +kernel
theorem dX9_checksum_151 : decode cX9_checksum 151 = .ok (.goto (-19), 3) := by decide +kernel
theorem dX9_checksum_154 : decode cX9_checksum 154 = .ok (.iinc 1 1, 3) := by decide +kernel
theorem dX9_checksum_157 : decode cX9_checksum 157 = .ok (.goto (-38), 3) := by decide +kernel
theorem dX9_checksum_160 : decode cX9_checksum 160 = .ok (.aload_n 0, 1) := by decide +kernel
theorem dX9_checksum_161 : decode cX9_checksum 161 = .ok (.aload_n 0, 1) := by decide +kernel
theorem dX9_checksum_162 : decode cX9_checksum 162 = .ok (.invokevirtual 86, 3) := by decide +kernel
theorem dX9_checksum_165 : decode cX9_checksum 165 = .ok (.invokevirtual 165, 3) := by decide +kernel
theorem dX9_checksum_168 : decode cX9_checksum 168 = .ok (.iconst 0, 1) := by decide +kernel
theorem dX9_checksum_169 : decode cX9_checksum 169 = .ok (.istore_n 1, 1) := by decide +kernel
theorem dX9_checksum_170 : decode cX9_checksum 170 = .ok (.iload_n 1, 1) := by decide +kernel
theorem dX9_checksum_171 : decode cX9_checksum 171 = .ok (.iconst 4, 1) := by decide +kernel
theorem dX9_checksum_172 : decode cX9_checksum 172 = .ok (.aload_n 0, 1) := by decide +kernel
theorem dX9_checksum_173 : decode cX9_checksum 173 = .ok (.getfield 7, 3) := by decide +kernel
theorem dX9_checksum_176 : decode cX9_checksum 176 = .ok (.bipush 12, 2) := by decide +kernel
theorem dX9_checksum_178 : decode cX9_checksum 178 = .ok (.iaload, 1) := by decide +kernel
theorem dX9_checksum_179 : decode cX9_checksum 179 = .ok (.imul, 1) := by decide +kernel
theorem dX9_checksum_180 : decode cX9_checksum 180 = .ok (.if_icmp .ge 23, 3) := by decide +kernel
theorem dX9_checksum_183 : decode cX9_checksum 183 = .ok (.aload_n 0, 1) := by decide +kernel
theorem dX9_checksum_184 : decode cX9_checksum 184 = .ok (.aload_n 0, 1) := by decide +kernel
theorem dX9_checksum_185 : decode cX9_checksum 185 = .ok (.getfield 7, 3) := by decide +kernel
theorem dX9_checksum_188 : decode cX9_checksum 188 = .ok (.sipush 145, 3) := by decide +kernel
theorem dX9_checksum_191 : decode cX9_checksum 191 = .ok (.iload_n 1, 1) := by decide +kernel
theorem dX9_checksum_192 : decode cX9_checksum 192 = .ok (.iadd, 1) := by decide +kernel
theorem dX9_checksum_193 : decode cX9_checksum 193 = .ok (.iaload, 1) := by decide +kernel
theorem dX9_checksum_194 : decode cX9_checksum 194 = .ok (.invokevirtual 165, 3) := by decide +kernel
theorem dX9_checksum_197 : decode cX9_checksum 197 = .ok (.iinc 1 1, 3) := by decide +kernel
theorem dX9_checksum_200 : decode cX9_checksum 200 = .ok (.goto (-30), 3) := by decide +kernel
theorem dX9_checksum_203 : decode cX9_checksum 203 = .ok (.iconst 0, 1) := by decide +kernel
theorem dX9_checksum_204 : decode cX9_checksum 204 = .ok (.istore_n 1, 1) := by decide +kernel
theorem dX9_checksum_205 : decode cX9_checksum 205 = .ok (.iload_n 1, 1) := by decide +kernel
theorem dX9_checksum_206 : decode cX9_checksum 206 = .ok (.bipush 6, 2) := by decide +kernel
theorem dX9_checksum_208 : decode cX9_checksum 208 = .ok (.if_icmp .ge 22, 3) := by decide +kernel
theorem dX9_checksum_211 : decode cX9_checksum 211 = .ok (.aload_n 0, 1) := by decide +kernel
theorem dX9_checksum_212 : decode cX9_checksum 212 = .ok (.aload_n 0, 1) := by decide +kernel
theorem dX9_checksum_213 : decode cX9_checksum 213 = .ok (.getfield 7, 3) := by decide +kernel
theorem dX9_checksum_216 : decode cX9_checksum 216 = .ok (.bipush 13, 2) := by decide +kernel
theorem dX9_checksum_218 : decode cX9_checksum 218 = .ok (.iload_n 1, 1) := by decide +kernel
theorem dX9_checksum_219 : decode cX9_checksum 219 = .ok (.iadd, 1) := by decide +kernel
theorem dX9_checksum_220 : decode cX9_checksum 220 = .ok (.iaload, 1) := by decide +kernel
theorem dX9_checksum_221 : decode cX9_checksum 221 = .ok (.invokevirtual 165, 3) := by decide +kernel
theorem dX9_checksum_224 : decode cX9_checksum 224 = .ok (.iinc 1 1, 3) := by decide +kernel
theorem dX9_checksum_227 : decode cX9_checksum 227 = .ok (.goto (-22), 3) := by decide +kernel
theorem dX9_checksum_230 : decode cX9_checksum 230 = .ok (.aload_n 0, 1) := by decide +kernel
theorem dX9_checksum_231 : decode cX9_checksum 231 = .ok (.aload_n 0, 1) := by decide +kernel
theorem dX9_checksum_232 : decode cX9_checksum 232 = .ok (.getfield 30, 3) := by decide +kernel
theorem dX9_checksum_235 : decode cX9_checksum 235 = .ok (.invokevirtual 165, 3) := by decide +kernel
theorem dX9_checksum_238 : decode cX9_checksum 238 = .ok (.aload_n 0, 1) := by decide +kernel
theorem dX9_checksum_239 : decode cX9_checksum 239 = .ok (.getfield 159, 3) := by decide +kernel
theorem dX9_checksum_242 : decode cX9_checksum 242 = .ok (.lreturn, 1) := by decide +kernel
