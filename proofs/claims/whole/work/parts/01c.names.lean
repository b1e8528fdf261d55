set_option maxRecDepth 20000 in
theorem ggX4_push_X3_become : GoodIn wsX4_push wsX3_become := goodIn_r _ [12, 13, 14, 15, 19, 20, 21] (by decide +kernel) (by decide +kernel)
set_option maxRecDepth 20000 in
theorem gX4_push_X3_become : GoodIn wsX4_push (wsV RX4 22 RX3 yX3_become wsX3_become) := goodIn_app (goodIn_of _ (by decide +kernel)) ggX4_push_X3_become
theorem dX4_push_0 : decode cX4_push 0 = .ok (.aload_n 0, 1) := by decide +kernel
theorem dX4_push_1 : decode cX4_push 1 = .ok (.getfield 11, 3) := by decide +kernel
theorem dX4_push_4 : decode cX4_push 4 = .ok (.aload_n 0, 1) := by decide +kernel
theorem dX4_push_5 : decode cX4_push 5 = .ok (.getfield 18, 3) := by decide +kernel
theorem dX4_push_8 : decode cX4_push 8 = .ok (.aaload, 1) := by decide +kernel
theorem dX4_push_9 : decode cX4_push 9 = .ok (.aload_n 1, 1) := by decide +kernel
theorem dX4_push_10 : decode cX4_push 10 = .ok (.invokevirtual 22, 3) := by decide +kernel
theorem dX4_push_13 : decode cX4_push 13 = .ok (.aload_n 0, 1) := by decide +kernel
theorem dX4_push_14 : decode cX4_push 14 = .ok (.aload_n 0, 1) := by decide +kernel
theorem dX4_push_15 : decode cX4_push 15 = .ok (.getfield 18, 3) := by decide +kernel
theorem dX4_push_18 : decode cX4_push 18 = .ok (.iconst 1, 1) := by decide +kernel
theorem dX4_push_19 : decode cX4_push 19 = .ok (.iadd, 1) := by decide +kernel
theorem dX4_push_20 : decode cX4_push 20 = .ok (.bipush 10, 2) := by decide +kernel
theorem dX4_push_22 : decode cX4_push 22 = .ok (.irem, 1) := by decide +kernel
theorem dX4_push_23 : decode cX4_push 23 = .ok (.putfield 18, 3) := by decide +kernel
theorem dX4_push_26 : decode cX4_push 26 = .ok (.aload_n 0, 1) := by decide +kernel
theorem dX4_push_27 : decode cX4_push 27 = .ok (.aload_n 0, 1) := by decide +kernel
theorem dX4_push_28 : decode cX4_push 28 = .ok (.getfield 26, 3) := by decide +kernel
theorem dX4_push_31 : decode cX4_push 31 = .ok (.iconst 1, 1) := by decide +kernel
theorem dX4_push_32 : decode cX4_push 32 = .ok (.iadd, 1) := by decide +kernel
theorem dX4_push_33 : decode cX4_push 33 = .ok (.bipush 10, 2) := by decide +kernel
theorem dX4_push_35 : decode cX4_push 35 = .ok (.invokestatic 29, 3) := by decide +kernel
theorem dX4_push_38 : decode cX4_push 38 = .ok (.putfield 26, 3) := by decide +kernel
theorem dX4_push_41 : decode cX4_push 41 = .ok (.return_, 1) := by decide +kernel
set_option maxRecDepth 20000 in
theorem ggX4_restore_X3_become : GoodIn wsX4_restore wsX3_become := goodIn_r _ [8, 9, 10, 11, 15, 16, 17] (by decide +kernel) (by decide +kernel)
set_option maxRecDepth 20000 in
theorem gX4_restore_X3_become : GoodIn wsX4_restore (wsV RX4 22 RX3 yX3_become wsX3_become) := goodIn_app (goodIn_of _ (by decide +kernel)) ggX4_restore_X3_become
theorem dX4_restore_0 : decode cX4_restore 0 = .ok (.aload_n 0, 1) := by decide +kernel
theorem dX4_restore_1 : decode cX4_restore 1 = .ok (.getfield 26, 3) := by decide +kernel
theorem dX4_restore_4 : decode cX4_restore 4 = .ok (.ifCond .le 42, 3) := by decide +kernel
theorem dX4_restore_7 : decode cX4_restore 7 = .ok (.aload_n 0, 1) := by decide +kernel
theorem dX4_restore_8 : decode cX4_restore 8 = .ok (.aload_n 0, 1) := by decide +kernel
theorem dX4_restore_9 : decode cX4_restore 9 = .ok (.getfield 18, 3) := by decide +kernel
theorem dX4_restore_12 : decode cX4_restore 12 = .ok (.bipush 10, 2) := by decide +kernel
theorem dX4_restore_14 : decode cX4_restore 14 = .ok (.iadd, 1) := by decide +kernel
theorem dX4_restore_15 : decode cX4_restore 15 = .ok (.iconst 1, 1) := by decide +kernel
theorem dX4_restore_16 : decode cX4_restore 16 = .ok (.isub, 1) := by decide +kernel
theorem dX4_restore_17 : decode cX4_restore 17 = .ok (.bipush 10, 2) := by decide +kernel
theorem dX4_restore_19 : decode cX4_restore 19 = .ok (.irem, 1) := by decide +kernel
theorem dX4_restore_20 : decode cX4_restore 20 = .ok (.putfield 18, 3) := by decide +kernel
theorem dX4_restore_23 : decode cX4_restore 23 = .ok (.aload_n 1, 1) := by decide +kernel
theorem dX4_restore_24 : decode cX4_restore 24 = .ok (.aload_n 0, 1) := by decide +kernel
theorem dX4_restore_25 : decode cX4_restore 25 = .ok (.getfield 11, 3) := by decide +kernel
theorem dX4_restore_28 : decode cX4_restore 28 = .ok (.aload_n 0, 1) := by decide +kernel
theorem dX4_restore_29 : decode cX4_restore 29 = .ok (.getfield 18, 3) := by decide +kernel
theorem dX4_restore_32 : decode cX4_restore 32 = .ok (.aaload, 1) := by decide +kernel
theorem dX4_restore_33 : decode cX4_restore 33 = .ok (.invokevirtual 22, 3) := by decide +kernel
theorem dX4_restore_36 : decode cX4_restore 36 = .ok (.aload_n 0, 1) := by decide +kernel
theorem dX4_restore_37 : decode cX4_restore 37 = .ok (.dup, 1) := by decide +kernel
theorem dX4_restore_38 : decode cX4_restore 38 = .ok (.getfield 26, 3) := by decide +kernel
theorem dX4_restore_41 : decode cX4_restore 41 = .ok (.iconst 1, 1) := by decide +kernel
theorem dX4_restore_42 : decode cX4_restore 42 = .ok (.isub, 1) := by decide +kernel
theorem dX4_restore_43 : decode cX4_restore 43 = .ok (.putfield 26, 3) := by decide +kernel
theorem dX4_restore_46 : decode cX4_restore 46 = .ok (.return_, 1) := by decide +kernel
theorem dX5_init_0 : decode cX5_init 0 = .ok (.aload_n 0, 1) := by decide +kernel
theorem dX5_init_1 : decode cX5_init 1 = .ok (.invokespecial 3, 3) := by decide +kernel
theorem dX5_init_4 : decode cX5_init 4 = .ok (.aload_n 0, 1) := by decide +kernel
theorem dX5_init_5 : decode cX5_init 5 = .ok (.sipush 140, 3) := by decide +kernel
theorem dX5_init_8 : decode cX5_init 8 = .ok (.newarray .int, 2) := by decide +kernel
theorem dX5_init_10 : decode cX5_init 10 = .ok (.putfield 9, 3) := by decide +kernel
theorem dX5_init_13 : decode cX5_init 13 = .ok (.return_, 1) := by decide +kernel
theorem dX5_append_0 : decode cX5_append 0 = .ok (.aload_n 0, 1) := by decide +kernel
theorem dX5_append_1 : decode cX5_append 1 = .ok (.getfield 15, 3) := by decide +kernel
theorem dX5_append_4 : decode cX5_append 4 = .ok (.sipush 140, 3) := by decide +kernel
theorem dX5_append_7 : decode cX5_append 7 = .ok (.if_icmp .ge 23, 3) := by decide +kernel
theorem dX5_append_10 : decode cX5_append 10 = .ok (.aload_n 0, 1) := by decide +kernel
theorem dX5_append_11 : decode cX5_append 11 = .ok (.getfield 9, 3) := by decide +kernel
theorem dX5_append_14 : decode cX5_append 14 = .ok (.aload_n 0, 1) := by decide +kernel
theorem dX5_append_15 : decode cX5_append 15 = .ok (.getfield 15, 3) := by decide +kernel
theorem dX5_append_18 : decode cX5_append 18 = .ok (.iload_n 1, 1) := by decide +kernel
theorem dX5_append_19 : decode cX5_append 19 = .ok (.iastore, 1) := by decide +kernel
theorem dX5_append_20 : decode cX5_append 20 = .ok (.aload_n 0, 1) := by decide +kernel
theorem dX5_append_21 : decode cX5_append 21 = .ok (.dup, 1) := by decide +kernel
theorem dX5_append_22 : decode cX5_append 22 = .ok (.getfield 15, 3) := by decide +kernel
theorem dX5_append_25 : decode cX5_append 25 = .ok (.iconst 1, 1) := by decide +kernel
theorem dX5_append_26 : decode cX5_append 26 = .ok (.iadd, 1) := by decide +kernel
theorem dX5_append_27 : decode cX5_append 27 = .ok (.putfield 15, 3) := by decide +kernel
theorem dX5_append_30 : decode cX5_append 30 = .ok (.return_, 1) := by decide +kernel
set_option maxRecDepth 20000 in
theorem ggX5_tell_X1_empty : GoodIn wsX5_tell wsX1_empty := goodIn_r _ [8, 9, 10, 11, 12, 86, 87, 88, 89, 90, 91, 92, 93, 94, 95, 96] (by decide +kernel) (by decide +kernel)
set_option maxRecDepth 20000 in
theorem gX5_tell_X1_empty : GoodIn wsX5_tell (wsV RX5 19 RX1 yX1_empty wsX1_empty) := goodIn_app (goodIn_of _ (by decide +kernel)) ggX5_tell_X1_empty
set_option maxRecDepth 20000 in
theorem ggX5_tell_X5_advance : GoodIn wsX5_tell wsX5_advance := goodIn_r _ [17, 1, 3, 18, 19, 2, 20, 21, 16, 22, 23, 24, 25, 26, 27, 28, 29, 30, 31, 80, 81, 82, 83, 84, 85] (by decide +kernel) (by decide +kernel)
set_option maxRecDepth 20000 in
theorem gX5_tell_X5_advance : GoodIn wsX5_tell (wsV RX5 27 RX5 yX5_advance wsX5_advance) := goodIn_app (goodIn_of _ (by decide +kernel)) ggX5_tell_X5_advance
set_option maxRecDepth 20000 in
theorem ggX5_tell_X5_readsPeak : GoodIn wsX5_tell wsX5_readsPeak := goodIn_r _ [35, 36, 27, 37, 38, 39, 16, 40, 2, 13, 14, 15, 17, 1, 3, 18, 19, 20, 21, 22, 23, 24, 25, 26, 28, 29, 30, 31, 41, 42, 43, 7, 44, 12, 45, 46, 47, 48, 49, 50, 51, 52, 53, 54, 55, 9, 56, 57, 58, 59, 86, 87, 88, 89, 90, 91, 92, 93, 94, 95, 96, 80, 81, 82, 83, 84, 85] (by decide +kernel) (by decide +kernel)
set_option maxRecDepth 20000 in
theorem gX5_tell_X5_readsPeak : GoodIn wsX5_tell (wsV RX5 33 RX5 yX5_readsPeak wsX5_readsPeak) := goodIn_app (goodIn_of _ (by decide +kernel)) ggX5_tell_X5_readsPeak
set_option maxRecDepth 20000 in
theorem ggX5_tell_X5_readsRidge : GoodIn wsX5_tell wsX5_readsRidge := goodIn_r _ [63, 64, 36, 27, 37, 38, 39, 16, 40, 2, 13, 14, 15, 17, 1, 3, 18, 19, 20, 21, 22, 23, 24, 25, 26, 28, 29, 30, 31, 48, 49, 50, 51, 65, 66, 67, 7, 68, 10, 69, 70, 71, 72, 73, 74, 9, 86, 87, 88, 89, 90, 91, 92, 93, 94, 95, 96, 80, 81, 82, 83, 84, 85] (by decide +kernel) (by decide +kernel)
set_option maxRecDepth 20000 in
theorem gX5_tell_X5_readsRidge : GoodIn wsX5_tell (wsV RX5 37 RX5 yX5_readsRidge wsX5_readsRidge) := goodIn_app (goodIn_of _ (by decide +kernel)) ggX5_tell_X5_readsRidge
set_option maxRecDepth 20000 in
theorem ggX5_tell_X5_readsSlack : GoodIn wsX5_tell wsX5_readsSlack := goodIn_r _ [78, 27, 79, 37, 38, 39, 16, 40, 2, 13, 14, 15, 17, 1, 3, 18, 19, 20, 21, 22, 23, 24, 25, 26, 28, 29, 30, 31, 48, 49, 50, 51, 80, 81, 82, 83, 84, 85, 86, 87, 88, 89, 90, 91, 92, 93, 94, 95, 96] (by decide +kernel) (by decide +kernel)
set_option maxRecDepth 20000 in
theorem gX5_tell_X5_readsSlack : GoodIn wsX5_tell (wsV RX5 40 RX5 yX5_readsSlack wsX5_readsSlack) := goodIn_app (goodIn_of _ (by decide +kernel)) ggX5_tell_X5_readsSlack
theorem dX5_tell_0 : decode cX5_tell 0 = .ok (.aload_n 1, 1) := by decide +kernel
theorem dX5_tell_1 : decode cX5_tell 1 = .ok (.invokevirtual 19, 3) := by decide +kernel
theorem dX5_tell_4 : decode cX5_tell 4 = .ok (.aload_n 0, 1) := by decide +kernel
theorem dX5_tell_5 : decode cX5_tell 5 = .ok (.iconst 0, 1) := by decide +kernel
theorem dX5_tell_6 : decode cX5_tell 6 = .ok (.putfield 24, 3) := by decide +kernel
theorem dX5_tell_9 : decode cX5_tell 9 = .ok (.iconst 0, 1) := by decide +kernel
theorem dX5_tell_10 : decode cX5_tell 10 = .ok (.istore_n 2, 1) := by decide +kernel
theorem dX5_tell_11 : decode cX5_tell 11 = .ok (.iload_n 2, 1) := by decide +kernel
theorem dX5_tell_12 : decode cX5_tell 12 = .ok (.sipush 140, 3) := by decide +kernel
theorem dX5_tell_15 : decode cX5_tell 15 = .ok (.if_icmp .gt 93, 3) := by decide +kernel
theorem dX5_tell_18 : decode cX5_tell 18 = .ok (.aload_n 0, 1) := by decide +kernel
theorem dX5_tell_19 : decode cX5_tell 19 = .ok (.invokevirtual 27, 3) := by decide +kernel
theorem dX5_tell_22 : decode cX5_tell 22 = .ok (.aload_n 0, 1) := by decide +kernel
theorem dX5_tell_23 : decode cX5_tell 23 = .ok (.getfield 30, 3) := by decide +kernel
theorem dX5_tell_26 : decode cX5_tell 26 = .ok (.iconst (-1), 1) := by decide +kernel
theorem dX5_tell_27 : decode cX5_tell 27 = .ok (.if_icmp .ne 6, 3) := by decide +kernel
theorem dX5_tell_30 : decode cX5_tell 30 = .ok (.goto 78, 3) := by decide +kernel
theorem dX5_tell_33 : decode cX5_tell 33 = .ok (.aload_n 0, 1) := by decide +kernel
theorem dX5_tell_34 : decode cX5_tell 34 = .ok (.getfield 30, 3) := by decide +kernel
theorem dX5_tell_37 : decode cX5_tell 37 = .ok (.bipush 112, 2) := by decide +kernel
theorem dX5_tell_39 : decode cX5_tell 39 = .ok (.if_icmp .ne 11, 3) := by decide +kernel
theorem dX5_tell_42 : decode cX5_tell 42 = .ok (.aload_n 0, 1) := by decide +kernel
theorem dX5_tell_43 : decode cX5_tell 43 = .ok (.aload_n 1, 1) := by decide +kernel
theorem dX5_tell_44 : decode cX5_tell 44 = .ok (.invokevirtual 33, 3) := by decide +kernel
theorem dX5_tell_47 : decode cX5_tell 47 = .ok (.goto 42, 3) := by decide +kernel
theorem dX5_tell_50 : decode cX5_tell 50 = .ok (.aload_n 0, 1) := by decide +kernel
theorem dX5_tell_51 : decode cX5_tell 51 = .ok (.getfield 30, 3) := by decide +kernel
theorem dX5_tell_54 : decode cX5_tell 54 = .ok (.bipush 114, 2) := by decide +kernel
theorem dX5_tell_56 : decode cX5_tell 56 = .ok (.if_icmp .ne 11, 3) := by decide +kernel
theorem dX5_tell_59 : decode cX5_tell 59 = .ok (.aload_n 0, 1) := by decide +kernel
theorem dX5_tell_60 : decode cX5_tell 60 = .ok (.aload_n 1, 1) := by decide +kernel
theorem dX5_tell_61 : decode cX5_tell 61 = .ok (.invokevirtual 37, 3) := by decide +kernel
theorem dX5_tell_64 : decode cX5_tell 64 = .ok (.goto 25, 3) := by decide +kernel
theorem dX5_tell_67 : decode cX5_tell 67 = .ok (.aload_n 0, 1) := by decide +kernel
theorem dX5_tell_68 : decode cX5_tell 68 = .ok (.getfield 30, 3) := by decide +kernel
theorem dX5_tell_71 : decode cX5_tell 71 = .ok (.bipush 115, 2) := by decide +kernel
theorem dX5_tell_73 : decode cX5_tell 73 = .ok (.if_icmp .ne 15, 3) := by decide +kernel
theorem dX5_tell_76 : decode cX5_tell 76 = .ok (.aload_n 0, 1) := by decide +kernel
theorem dX5_tell_77 : decode cX5_tell 77 = .ok (.aload_n 1, 1) := by decide +kernel
theorem dX5_tell_78 : decode cX5_tell 78 = .ok (.invokevirtual 40, 3) := by decide +kernel
theorem dX5_tell_81 : decode cX5_tell 81 = .ok (.ifCond .eq 7, 3) := by decide +kernel
theorem dX5_tell_84 : decode cX5_tell 84 = .ok (.iconst 1, 1) := by decide +kernel
theorem dX5_tell_85 : decode cX5_tell 85 = .ok (.goto 4, 3) := by decide +kernel
theorem dX5_tell_88 : decode cX5_tell 88 = .ok (.iconst 0, 1) := by decide +kernel
theorem dX5_tell_89 : decode cX5_tell 89 = .ok (.istore_n 3, 1) := by decide +kernel
theorem dX5_tell_90 : decode cX5_tell 90 = .ok (.iload_n 3, 1) := by decide +kernel
theorem dX5_tell_91 : decode cX5_tell 91 = .ok (.ifCond .ne 11, 3) := by decide +kernel
theorem dX5_tell_94 : decode cX5_tell 94 = .ok (.bipush (-10), 2) := by decide +kernel
theorem dX5_tell_96 : decode cX5_tell 96 = .ok (.aload_n 0, 1) := by decide +kernel
theorem dX5_tell_97 : decode cX5_tell 97 = .ok (.getfield 43, 3) := by decide +kernel
theorem dX5_tell_100 : decode cX5_tell 100 = .ok (.isub, 1) := by decide +kernel
theorem dX5_tell_101 : decode cX5_tell 101 = .ok (.ireturn, 1) := by decide +kernel
theorem dX5_tell_102 : decode cX5_tell 102 = .ok (.iinc 2 1, 3) := by decide +kernel
theorem dX5_tell_105 : decode cX5_tell 105 = .ok (.goto (-94), 3) := by decide +kernel
theorem dX5_tell_108 : decode cX5_tell 108 = .ok (.iload_n 2, 1) := by decide +kernel
theorem dX5_tell_109 : decode cX5_tell 109 = .ok (.ireturn, 1) := by decide +kernel
set_option maxRecDepth 20000 in
theorem ggX5_readsPeak_X5_readsNumber : GoodIn wsX5_readsPeak wsX5_readsNumber := goodIn_r _ [7, 8, 2, 9, 10, 11, 6, 12, 13, 14, 15, 16, 17, 18, 19, 20, 21, 22, 23, 24, 25, 26, 27, 61, 62, 63, 64, 65, 66] (by decide +kernel) (by decide +kernel)
set_option maxRecDepth 20000 in
theorem gX5_readsPeak_X5_readsNumber : GoodIn wsX5_readsPeak (wsV RX5 49 RX5 yX5_readsNumber wsX5_readsNumber) := goodIn_app (goodIn_of _ (by decide +kernel)) ggX5_readsPeak_X5_readsNumber
set_option maxRecDepth 20000 in
theorem ggX5_readsPeak_X1_isPlace : GoodIn wsX5_readsPeak wsX1_isPlace := goodIn_r _ [32, 33, 34, 35, 36, 50, 51, 52, 53, 54, 55, 56, 57, 58, 59, 60] (by decide +kernel) (by decide +kernel)
set_option maxRecDepth 20000 in
theorem gX5_readsPeak_X1_isPlace : GoodIn wsX5_readsPeak (wsV RX5 56 RX1 yX1_isPlace wsX1_isPlace) := goodIn_app (goodIn_of _ (by decide +kernel)) ggX5_readsPeak_X1_isPlace
set_option maxRecDepth 20000 in
theorem ggX5_readsPeak_X5_readsItemEnd : GoodIn wsX5_readsPeak wsX5_readsItemEnd := goodIn_r _ [40, 8, 9, 10, 11, 6, 12, 13, 14, 15, 16, 17, 18, 19, 20, 21, 22, 23, 2, 24, 25, 26, 27, 61, 62, 63, 64, 65, 66] (by decide +kernel) (by decide +kernel)
set_option maxRecDepth 20000 in
theorem gX5_readsPeak_X5_readsItemEnd : GoodIn wsX5_readsPeak (wsV RX5 59 RX5 yX5_readsItemEnd wsX5_readsItemEnd) := goodIn_app (goodIn_of _ (by decide +kernel)) ggX5_readsPeak_X5_readsItemEnd
set_option maxRecDepth 20000 in
theorem ggX5_readsPeak_X1_addPeak : GoodIn wsX5_readsPeak wsX1_addPeak := goodIn_r _ [44, 45, 46, 47, 48, 33, 49, 29, 30, 31, 32, 34, 35, 36, 50, 51, 52, 53, 54, 55, 56, 57, 58, 59, 60] (by decide +kernel) (by decide +kernel)
set_option maxRecDepth 20000 in
theorem gX5_readsPeak_X1_addPeak : GoodIn wsX5_readsPeak (wsV RX5 63 RX1 yX1_addPeak wsX1_addPeak) := goodIn_app (goodIn_of _ (by decide +kernel)) ggX5_readsPeak_X1_addPeak
theorem dX5_readsPeak_0 : decode cX5_readsPeak 0 = .ok (.aload_n 1, 1) := by decide +kernel
theorem dX5_readsPeak_1 : decode cX5_readsPeak 1 = .ok (.getfield 46, 3) := by decide +kernel
theorem dX5_readsPeak_4 : decode cX5_readsPeak 4 = .ok (.bipush 10, 2) := by decide +kernel
theorem dX5_readsPeak_6 : decode cX5_readsPeak 6 = .ok (.if_icmp .ge 13, 3) := by decide +kernel
theorem dX5_readsPeak_9 : decode cX5_readsPeak 9 = .ok (.aload_n 0, 1) := by decide +kernel
theorem dX5_readsPeak_10 : decode cX5_readsPeak 10 = .ok (.iconst 0, 1) := by decide +kernel
theorem dX5_readsPeak_11 : decode cX5_readsPeak 11 = .ok (.bipush 7, 2) := by decide +kernel
theorem dX5_readsPeak_13 : decode cX5_readsPeak 13 = .ok (.invokevirtual 49, 3) := by decide +kernel
theorem dX5_readsPeak_16 : decode cX5_readsPeak 16 = .ok (.ifCond .ne 5, 3) := by decide +kernel
theorem dX5_readsPeak_19 : decode cX5_readsPeak 19 = .ok (.iconst 0, 1) := by decide +kernel
theorem dX5_readsPeak_20 : decode cX5_readsPeak 20 = .ok (.ireturn, 1) := by decide +kernel
theorem dX5_readsPeak_21 : decode cX5_readsPeak 21 = .ok (.aload_n 0, 1) := by decide +kernel
theorem dX5_readsPeak_22 : decode cX5_readsPeak 22 = .ok (.getfield 53, 3) := by decide +kernel
theorem dX5_readsPeak_25 : decode cX5_readsPeak 25 = .ok (.istore_n 2, 1) := by decide +kernel
theorem dX5_readsPeak_26 : decode cX5_readsPeak 26 = .ok (.aload_n 0, 1) := by decide +kernel
theorem dX5_readsPeak_27 : decode cX5_readsPeak 27 = .ok (.iconst 0, 1) := by decide +kernel
theorem dX5_readsPeak_28 : decode cX5_readsPeak 28 = .ok (.bipush 7, 2) := by decide +kernel
theorem dX5_readsPeak_30 : decode cX5_readsPeak 30 = .ok (.invokevirtual 49, 3) := by decide +kernel
theorem dX5_readsPeak_33 : decode cX5_readsPeak 33 = .ok (.ifCond .ne 5, 3) := by decide +kernel
theorem dX5_readsPeak_36 : decode cX5_readsPeak 36 = .ok (.iconst 0, 1) := by decide +kernel
theorem dX5_readsPeak_37 : decode cX5_readsPeak 37 = .ok (.ireturn, 1) := by decide +kernel
theorem dX5_readsPeak_38 : decode cX5_readsPeak 38 = .ok (.aload_n 0, 1) := by decide +kernel
theorem dX5_readsPeak_39 : decode cX5_readsPeak 39 = .ok (.getfield 53, 3) := by decide +kernel
theorem dX5_readsPeak_42 : decode cX5_readsPeak 42 = .ok (.istore_n 3, 1) := by decide +kernel
theorem dX5_readsPeak_43 : decode cX5_readsPeak 43 = .ok (.aload_n 1, 1) := by decide +kernel
theorem dX5_readsPeak_44 : decode cX5_readsPeak 44 = .ok (.iload_n 2, 1) := by decide +kernel
theorem dX5_readsPeak_45 : decode cX5_readsPeak 45 = .ok (.iload_n 3, 1) := by decide +kernel
theorem dX5_readsPeak_46 : decode cX5_readsPeak 46 = .ok (.invokevirtual 56, 3) := by decide +kernel
theorem dX5_readsPeak_49 : decode cX5_readsPeak 49 = .ok (.ifCond .eq 13, 3) := by decide +kernel
theorem dX5_readsPeak_52 : decode cX5_readsPeak 52 = .ok (.aload_n 0, 1) := by decide +kernel
theorem dX5_readsPeak_53 : decode cX5_readsPeak 53 = .ok (.iconst 1, 1) := by decide +kernel
theorem dX5_readsPeak_54 : decode cX5_readsPeak 54 = .ok (.bipush 40, 2) := by decide +kernel
theorem dX5_readsPeak_56 : decode cX5_readsPeak 56 = .ok (.invokevirtual 49, 3) := by decide +kernel
theorem dX5_readsPeak_59 : decode cX5_readsPeak 59 = .ok (.ifCond .ne 5, 3) := by decide +kernel
theorem dX5_readsPeak_62 : decode cX5_readsPeak 62 = .ok (.iconst 0, 1) := by decide +kernel
theorem dX5_readsPeak_63 : decode cX5_readsPeak 63 = .ok (.ireturn, 1) := by decide +kernel
theorem dX5_readsPeak_64 : decode cX5_readsPeak 64 = .ok (.aload_n 0, 1) := by decide +kernel
theorem dX5_readsPeak_65 : decode cX5_readsPeak 65 = .ok (.getfield 53, 3) := by decide +kernel
theorem dX5_readsPeak_68 : decode cX5_readsPeak 68 = .ok (.istore 4, 2) := by decide +kernel
theorem dX5_readsPeak_70 : decode cX5_readsPeak 70 = .ok (.aload_n 0, 1) := by decide +kernel
theorem dX5_readsPeak_71 : decode cX5_readsPeak 71 = .ok (.invokevirtual 59, 3) := by decide +kernel
theorem dX5_readsPeak_74 : decode cX5_readsPeak 74 = .ok (.ifCond .ne 5, 3) := by decide +kernel
theorem dX5_readsPeak_77 : decode cX5_readsPeak 77 = .ok (.iconst 0, 1) := by decide +kernel
theorem dX5_readsPeak_78 : decode cX5_readsPeak 78 = .ok (.ireturn, 1) := by decide +kernel
theorem dX5_readsPeak_79 : decode cX5_readsPeak 79 = .ok (.aload_n 1, 1) := by decide +kernel
theorem dX5_readsPeak_80 : decode cX5_readsPeak 80 = .ok (.iload_n 2, 1) := by decide +kernel
theorem dX5_readsPeak_81 : decode cX5_readsPeak 81 = .ok (.iload_n 3, 1) := by decide +kernel
theorem dX5_readsPeak_82 : decode cX5_readsPeak 82 = .ok (.iload 4, 2) := by decide +kernel
theorem dX5_readsPeak_84 : decode cX5_readsPeak 84 = .ok (.invokevirtual 63, 3) := by decide +kernel
theorem dX5_readsPeak_87 : decode cX5_readsPeak 87 = .ok (.iconst 1, 1) := by decide +kernel
theorem dX5_readsPeak_88 : decode cX5_readsPeak 88 = .ok (.ireturn, 1) := by decide +kernel
set_option maxRecDepth 20000 in
theorem ggX5_readsRidge_X5_readsNumber : GoodIn wsX5_readsRidge wsX5_readsNumber := goodIn_r _ [8, 9, 3, 10, 11, 12, 7, 13, 14, 15, 16, 17, 18, 19, 20, 21, 22, 23, 24, 25, 26, 27, 28, 57, 58, 59, 60, 61, 62] (by decide +kernel) (by decide +kernel)
set_option maxRecDepth 20000 in
theorem gX5_readsRidge_X5_readsNumber : GoodIn wsX5_readsRidge (wsV RX5 49 RX5 yX5_readsNumber wsX5_readsNumber) := goodIn_app (goodIn_of _ (by decide +kernel)) ggX5_readsRidge_X5_readsNumber
set_option maxRecDepth 20000 in
theorem ggX5_readsRidge_X5_readsItemEnd : GoodIn wsX5_readsRidge wsX5_readsItemEnd := goodIn_r _ [32, 9, 10, 11, 12, 7, 13, 14, 15, 16, 17, 18, 19, 20, 21, 22, 23, 24, 3, 25, 26, 27, 28, 57, 58, 59, 60, 61, 62] (by decide +kernel) (by decide +kernel)
set_option maxRecDepth 20000 in
theorem gX5_readsRidge_X5_readsItemEnd : GoodIn wsX5_readsRidge (wsV RX5 59 RX5 yX5_readsItemEnd wsX5_readsItemEnd) := goodIn_app (goodIn_of _ (by decide +kernel)) ggX5_readsRidge_X5_readsItemEnd
set_option maxRecDepth 20000 in
theorem ggX5_readsRidge_X1_addRidge : GoodIn wsX5_readsRidge wsX1_addRidge := goodIn_r _ [37, 38, 39, 40, 41, 42, 43, 36, 44, 45, 46, 47, 48, 49, 50, 51, 52, 53, 54, 55, 56] (by decide +kernel) (by decide +kernel)
set_option maxRecDepth 20000 in
theorem gX5_readsRidge_X1_addRidge : GoodIn wsX5_readsRidge (wsV RX5 70 RX1 yX1_addRidge wsX1_addRidge) := goodIn_app (goodIn_of _ (by decide +kernel)) ggX5_readsRidge_X1_addRidge
theorem dX5_readsRidge_0 : decode cX5_readsRidge 0 = .ok (.aload_n 1, 1) := by decide +kernel
theorem dX5_readsRidge_1 : decode cX5_readsRidge 1 = .ok (.getfield 67, 3) := by decide +kernel
theorem dX5_readsRidge_4 : decode cX5_readsRidge 4 = .ok (.bipush 8, 2) := by decide +kernel
theorem dX5_readsRidge_6 : decode cX5_readsRidge 6 = .ok (.if_icmp .ge 17, 3) := by decide +kernel
theorem dX5_readsRidge_9 : decode cX5_readsRidge 9 = .ok (.aload_n 0, 1) := by decide +kernel
theorem dX5_readsRidge_10 : decode cX5_readsRidge 10 = .ok (.iconst 0, 1) := by decide +kernel
theorem dX5_readsRidge_11 : decode cX5_readsRidge 11 = .ok (.aload_n 1, 1) := by decide +kernel
theorem dX5_readsRidge_12 : decode cX5_readsRidge 12 = .ok (.getfield 46, 3) := by decide +kernel
theorem dX5_readsRidge_15 : decode cX5_readsRidge 15 = .ok (.iconst 1, 1) := by decide +kernel
theorem dX5_readsRidge_16 : decode cX5_readsRidge 16 = .ok (.isub, 1) := by decide +kernel
theorem dX5_readsRidge_17 : decode cX5_readsRidge 17 = .ok (.invokevirtual 49, 3) := by decide +kernel
theorem dX5_readsRidge_20 : decode cX5_readsRidge 20 = .ok (.ifCond .ne 5, 3) := by decide +kernel
theorem dX5_readsRidge_23 : decode cX5_readsRidge 23 = .ok (.iconst 0, 1) := by decide +kernel
theorem dX5_readsRidge_24 : decode cX5_readsRidge 24 = .ok (.ireturn, 1) := by decide +kernel
theorem dX5_readsRidge_25 : decode cX5_readsRidge 25 = .ok (.aload_n 0, 1) := by decide +kernel
theorem dX5_readsRidge_26 : decode cX5_readsRidge 26 = .ok (.getfield 53, 3) := by decide +kernel
theorem dX5_readsRidge_29 : decode cX5_readsRidge 29 = .ok (.istore_n 2, 1) := by decide +kernel
theorem dX5_readsRidge_30 : decode cX5_readsRidge 30 = .ok (.aload_n 0, 1) := by decide +kernel
theorem dX5_readsRidge_31 : decode cX5_readsRidge 31 = .ok (.iconst 0, 1) := by decide +kernel
theorem dX5_readsRidge_32 : decode cX5_readsRidge 32 = .ok (.aload_n 1, 1) := by decide +kernel
theorem dX5_readsRidge_33 : decode cX5_readsRidge 33 = .ok (.getfield 46, 3) := by decide +kernel
theorem dX5_readsRidge_36 : decode cX5_readsRidge 36 = .ok (.iconst 1, 1) := by decide +kernel
theorem dX5_readsRidge_37 : decode cX5_readsRidge 37 = .ok (.isub, 1) := by decide +kernel
theorem dX5_readsRidge_38 : decode cX5_readsRidge 38 = .ok (.invokevirtual 49, 3) := by decide +kernel
theorem dX5_readsRidge_41 : decode cX5_readsRidge 41 = .ok (.ifCond .ne 5, 3) := by decide +kernel
theorem dX5_readsRidge_44 : decode cX5_readsRidge 44 = .ok (.iconst 0, 1) := by decide +kernel
theorem dX5_readsRidge_45 : decode cX5_readsRidge 45 = .ok (.ireturn, 1) := by decide +kernel
theorem dX5_readsRidge_46 : decode cX5_readsRidge 46 = .ok (.aload_n 0, 1) := by decide +kernel
theorem dX5_readsRidge_47 : decode cX5_readsRidge 47 = .ok (.getfield 53, 3) := by decide +kernel
theorem dX5_readsRidge_50 : decode cX5_readsRidge 50 = .ok (.istore_n 3, 1) := by decide +kernel
theorem dX5_readsRidge_51 : decode cX5_readsRidge 51 = .ok (.iload_n 3, 1) := by decide +kernel
theorem dX5_readsRidge_52 : decode cX5_readsRidge 52 = .ok (.iload_n 2, 1) := by decide +kernel
theorem dX5_readsRidge_53 : decode cX5_readsRidge 53 = .ok (.if_icmp .eq 10, 3) := by decide +kernel
theorem dX5_readsRidge_56 : decode cX5_readsRidge 56 = .ok (.aload_n 0, 1) := by decide +kernel
theorem dX5_readsRidge_57 : decode cX5_readsRidge 57 = .ok (.invokevirtual 59, 3) := by decide +kernel
theorem dX5_readsRidge_60 : decode cX5_readsRidge 60 = .ok (.ifCond .ne 5, 3) := by decide +kernel
theorem dX5_readsRidge_63 : decode cX5_readsRidge 63 = .ok (.iconst 0, 1) := by decide +kernel
theorem dX5_readsRidge_64 : decode cX5_readsRidge 64 = .ok (.ireturn, 1) := by decide +kernel
theorem dX5_readsRidge_65 : decode cX5_readsRidge 65 = .ok (.aload_n 1, 1) := by decide +kernel
theorem dX5_readsRidge_66 : decode cX5_readsRidge 66 = .ok (.iload_n 2, 1) := by decide +kernel
theorem dX5_readsRidge_67 : decode cX5_readsRidge 67 = .ok (.iload_n 3, 1) := by decide +kernel
theorem dX5_readsRidge_68 : decode cX5_readsRidge 68 = .ok (.invokevirtual 70, 3) := by decide +kernel
theorem dX5_readsRidge_71 : decode cX5_readsRidge 71 = .ok (.iconst 1, 1) := by decide +kernel
theorem dX5_readsRidge_72 : decode cX5_readsRidge 72 = .ok (.ireturn, 1) := by decide +kernel
set_option maxRecDepth 20000 in
theorem ggX5_readsSlack_X5_readsNumber : GoodIn wsX5_readsSlack wsX5_readsNumber := goodIn_r _ [7, 8, 1, 9, 10, 11, 6, 12, 13, 14, 15, 16, 17, 18, 19, 20, 21, 22, 23, 24, 25, 26, 27, 32, 33, 34, 35, 36, 37] (by decide +kernel) (by decide +kernel)
set_option maxRecDepth 20000 in
theorem gX5_readsSlack_X5_readsNumber : GoodIn wsX5_readsSlack (wsV RX5 49 RX5 yX5_readsNumber wsX5_readsNumber) := goodIn_app (goodIn_of _ (by decide +kernel)) ggX5_readsSlack_X5_readsNumber
set_option maxRecDepth 20000 in
theorem ggX5_readsSlack_X5_readsItemEnd : GoodIn wsX5_readsSlack wsX5_readsItemEnd := goodIn_r _ [31, 8, 9, 10, 11, 6, 12, 13, 14, 15, 16, 17, 18, 19, 20, 21, 22, 23, 1, 24, 25, 26, 27, 32, 33, 34, 35, 36, 37] (by decide +kernel) (by decide +kernel)
set_option maxRecDepth 20000 in
theorem gX5_readsSlack_X5_readsItemEnd : GoodIn wsX5_readsSlack (wsV RX5 59 RX5 yX5_readsItemEnd wsX5_readsItemEnd) := goodIn_app (goodIn_of _ (by decide +kernel)) ggX5_readsSlack_X5_readsItemEnd
theorem dX5_readsSlack_0 : decode cX5_readsSlack 0 = .ok (.aload_n 0, 1) := by decide +kernel
theorem dX5_readsSlack_1 : decode cX5_readsSlack 1 = .ok (.iconst 0, 1) := by decide +kernel
theorem dX5_readsSlack_2 : decode cX5_readsSlack 2 = .ok (.iconst 3, 1) := by decide +kernel
theorem dX5_readsSlack_3 : decode cX5_readsSlack 3 = .ok (.invokevirtual 49, 3) := by decide +kernel
theorem dX5_readsSlack_6 : decode cX5_readsSlack 6 = .ok (.ifCond .ne 5, 3) := by decide +kernel
theorem dX5_readsSlack_9 : decode cX5_readsSlack 9 = .ok (.iconst 0, 1) := by decide +kernel
theorem dX5_readsSlack_10 : decode cX5_readsSlack 10 = .ok (.ireturn, 1) := by decide +kernel
theorem dX5_readsSlack_11 : decode cX5_readsSlack 11 = .ok (.aload_n 0, 1) := by decide +kernel
theorem dX5_readsSlack_12 : decode cX5_readsSlack 12 = .ok (.getfield 53, 3) := by decide +kernel
theorem dX5_readsSlack_15 : decode cX5_readsSlack 15 = .ok (.istore_n 2, 1) := by decide +kernel
theorem dX5_readsSlack_16 : decode cX5_readsSlack 16 = .ok (.aload_n 0, 1) := by decide +kernel
theorem dX5_readsSlack_17 : decode cX5_readsSlack 17 = .ok (.invokevirtual 59, 3) := by decide +kernel
theorem dX5_readsSlack_20 : decode cX5_readsSlack 20 = .ok (.ifCond .ne 5, 3) := by decide +kernel
theorem dX5_readsSlack_23 : decode cX5_readsSlack 23 = .ok (.iconst 0, 1) := by decide +kernel
theorem dX5_readsSlack_24 : decode cX5_readsSlack 24 = .ok (.ireturn, 1) := by decide +kernel
theorem dX5_readsSlack_25 : decode cX5_readsSlack 25 = .ok (.aload_n 1, 1) := by decide +kernel
theorem dX5_readsSlack_26 : decode cX5_readsSlack 26 = .ok (.iload_n 2, 1) := by decide +kernel
theorem dX5_readsSlack_27 : decode cX5_readsSlack 27 = .ok (.putfield 74, 3) := by decide +kernel
theorem dX5_readsSlack_30 : decode cX5_readsSlack 30 = .ok (.iconst 1, 1) := by decide +kernel
theorem dX5_readsSlack_31 : decode cX5_readsSlack 31 = .ok (.ireturn, 1) := by decide +kernel
set_option maxRecDepth 20000 in
theorem ggX5_readsNumber_X5_advance : GoodIn wsX5_readsNumber wsX5_advance := goodIn_r _ [7, 8, 9, 10, 11, 1, 12, 13, 6, 14, 15, 16, 17, 18, 2, 19, 20, 21, 22, 23, 24, 25, 26, 27, 28] (by decide +kernel) (by decide +kernel)
set_option maxRecDepth 20000 in
theorem gX5_readsNumber_X5_advance : GoodIn wsX5_readsNumber (wsV RX5 27 RX5 yX5_advance wsX5_advance) := goodIn_app (goodIn_of _ (by decide +kernel)) ggX5_readsNumber_X5_advance
theorem dX5_readsNumber_0 : decode cX5_readsNumber 0 = .ok (.aload_n 0, 1) := by decide +kernel
theorem dX5_readsNumber_1 : decode cX5_readsNumber 1 = .ok (.invokevirtual 27, 3) := by decide +kernel
theorem dX5_readsNumber_4 : decode cX5_readsNumber 4 = .ok (.aload_n 0, 1) := by decide +kernel
theorem dX5_readsNumber_5 : decode cX5_readsNumber 5 = .ok (.getfield 30, 3) := by decide +kernel
theorem dX5_readsNumber_8 : decode cX5_readsNumber 8 = .ok (.bipush (-2), 2) := by decide +kernel
theorem dX5_readsNumber_10 : decode cX5_readsNumber 10 = .ok (.if_icmp .ne 23, 3) := by decide +kernel
theorem dX5_readsNumber_13 : decode cX5_readsNumber 13 = .ok (.aload_n 0, 1) := by decide +kernel
theorem dX5_readsNumber_14 : decode cX5_readsNumber 14 = .ok (.getfield 53, 3) := by decide +kernel
theorem dX5_readsNumber_17 : decode cX5_readsNumber 17 = .ok (.iload_n 1, 1) := by decide +kernel
theorem dX5_readsNumber_18 : decode cX5_readsNumber 18 = .ok (.if_icmp .lt 15, 3) := by decide +kernel
theorem dX5_readsNumber_21 : decode cX5_readsNumber 21 = .ok (.aload_n 0, 1) := by decide +kernel
theorem dX5_readsNumber_22 : decode cX5_readsNumber 22 = .ok (.getfield 53, 3) := by decide +kernel
theorem dX5_readsNumber_25 : decode cX5_readsNumber 25 = .ok (.iload_n 2, 1) := by decide +kernel
theorem dX5_readsNumber_26 : decode cX5_readsNumber 26 = .ok (.if_icmp .gt 7, 3) := by decide +kernel
theorem dX5_readsNumber_29 : decode cX5_readsNumber 29 = .ok (.iconst 1, 1) := by decide +kernel
theorem dX5_readsNumber_30 : decode cX5_readsNumber 30 = .ok (.goto 4, 3) := by decide +kernel
theorem dX5_readsNumber_33 : decode cX5_readsNumber 33 = .ok (.iconst 0, 1) := by decide +kernel
theorem dX5_readsNumber_34 : decode cX5_readsNumber 34 = .ok (.ireturn, 1) := by decide +kernel
set_option maxRecDepth 20000 in
theorem ggX5_readsItemEnd_X5_advance : GoodIn wsX5_readsItemEnd wsX5_advance := goodIn_r _ [6, 7, 8, 9, 10, 1, 11, 12, 5, 13, 14, 15, 16, 17, 18, 19, 20, 21, 22, 23, 24, 25, 26, 27, 28] (by decide +kernel) (by decide +kernel)
set_option maxRecDepth 20000 in
theorem gX5_readsItemEnd_X5_advance : GoodIn wsX5_readsItemEnd (wsV RX5 27 RX5 yX5_advance wsX5_advance) := goodIn_app (goodIn_of _ (by decide +kernel)) ggX5_readsItemEnd_X5_advance
theorem dX5_readsItemEnd_0 : decode cX5_readsItemEnd 0 = .ok (.aload_n 0, 1) := by decide +kernel
theorem dX5_readsItemEnd_1 : decode cX5_readsItemEnd 1 = .ok (.invokevirtual 27, 3) := by decide +kernel
theorem dX5_readsItemEnd_4 : decode cX5_readsItemEnd 4 = .ok (.aload_n 0, 1) := by decide +kernel
theorem dX5_readsItemEnd_5 : decode cX5_readsItemEnd 5 = .ok (.getfield 30, 3) := by decide +kernel
theorem dX5_readsItemEnd_8 : decode cX5_readsItemEnd 8 = .ok (.bipush 59, 2) := by decide +kernel
theorem dX5_readsItemEnd_10 : decode cX5_readsItemEnd 10 = .ok (.if_icmp .ne 7, 3) := by decide +kernel
theorem dX5_readsItemEnd_13 : decode cX5_readsItemEnd 13 = .ok (.iconst 1, 1) := by decide +kernel
theorem dX5_readsItemEnd_14 : decode cX5_readsItemEnd 14 = .ok (.goto 4, 3) := by decide +kernel
theorem dX5_readsItemEnd_17 : decode cX5_readsItemEnd 17 = .ok (.iconst 0, 1) := by decide +kernel
theorem dX5_readsItemEnd_18 : decode cX5_readsItemEnd 18 = .ok (.ireturn, 1) := by decide +kernel
set_option maxRecDepth 20000 in
theorem ggX5_advance_X5_isFigure : GoodIn wsX5_advance wsX5_isFigure := goodIn_r _ [9] (by decide +kernel) (by decide +kernel)
set_option maxRecDepth 20000 in
theorem gX5_advance_X5_isFigure : GoodIn wsX5_advance (va_wsS RX5 77 yX5_isFigure wsX5_isFigure) := goodIn_app (goodIn_of _ (by decide +kernel)) ggX5_advance_X5_isFigure
set_option maxRecDepth 20000 in
theorem ggX5_advance_X5_takeFigures : GoodIn wsX5_advance wsX5_takeFigures := goodIn_r _ [13, 14, 1, 3, 4, 15, 16, 17, 18, 2, 5, 6, 7, 8, 9, 19, 20, 21, 22, 23, 24] (by decide +kernel) (by decide +kernel)
set_option maxRecDepth 20000 in
theorem gX5_advance_X5_takeFigures : GoodIn wsX5_advance (wsV RX5 81 RX5 yX5_takeFigures wsX5_takeFigures) := goodIn_app (goodIn_of _ (by decide +kernel)) ggX5_advance_X5_takeFigures
theorem dX5_advance_0 : decode cX5_advance 0 = .ok (.aload_n 0, 1) := by decide +kernel
theorem dX5_advance_1 : decode cX5_advance 1 = .ok (.aload_n 0, 1) := by decide +kernel
theorem dX5_advance_2 : decode cX5_advance 2 = .ok (.getfield 24, 3) := by decide +kernel
theorem dX5_advance_5 : decode cX5_advance 5 = .ok (.putfield 43, 3) := by decide +kernel
theorem dX5_advance_8 : decode cX5_advance 8 = .ok (.aload_n 0, 1) := by decide +kernel
theorem dX5_advance_9 : decode cX5_advance 9 = .ok (.getfield 43, 3) := by decide +kernel
theorem dX5_advance_12 : decode cX5_advance 12 = .ok (.aload_n 0, 1) := by decide +kernel
theorem dX5_advance_13 : decode cX5_advance 13 = .ok (.getfield 15, 3) := by decide +kernel
theorem dX5_advance_16 : decode cX5_advance 16 = .ok (.if_icmp .ge 30, 3) := by decide +kernel
theorem dX5_advance_19 : decode cX5_advance 19 = .ok (.aload_n 0, 1) := by decide +kernel
theorem dX5_advance_20 : decode cX5_advance 20 = .ok (.getfield 9, 3) := by decide +kernel
theorem dX5_advance_23 : decode cX5_advance 23 = .ok (.aload_n 0, 1) := by decide +kernel
theorem dX5_advance_24 : decode cX5_advance 24 = .ok (.getfield 43, 3) := by decide +kernel
theorem dX5_advance_27 : decode cX5_advance 27 = .ok (.iaload, 1) := by decide +kernel
theorem dX5_advance_28 : decode cX5_advance 28 = .ok (.bipush 32, 2) := by decide +kernel
theorem dX5_advance_30 : decode cX5_advance 30 = .ok (.if_icmp .ne 16, 3) := by decide +kernel
theorem dX5_advance_33 : decode cX5_advance 33 = .ok (.aload_n 0, 1) := by decide +kernel
theorem dX5_advance_34 : decode cX5_advance 34 = .ok (.dup, 1) := by decide +kernel
theorem dX5_advance_35 : decode cX5_advance 35 = .ok (.getfield 43, 3) := by decide +kernel
theorem dX5_advance_38 : decode cX5_advance 38 = .ok (.iconst 1, 1) := by decide +kernel
theorem dX5_advance_39 : decode cX5_advance 39 = .ok (.iadd, 1) := by decide +kernel
theorem dX5_advance_40 : decode cX5_advance 40 = .ok (.putfield 43, 3) := by decide +kernel
theorem dX5_advance_43 : decode cX5_advance 43 = .ok (.goto (-35), 3) := by decide +kernel
theorem dX5_advance_46 : decode cX5_advance 46 = .ok (.aload_n 0, 1) := by decide +kernel
theorem dX5_advance_47 : decode cX5_advance 47 = .ok (.aload_n 0, 1) := by decide +kernel
theorem dX5_advance_48 : decode cX5_advance 48 = .ok (.getfield 43, 3) := by decide +kernel
theorem dX5_advance_51 : decode cX5_advance 51 = .ok (.putfield 24, 3) := by decide +kernel
theorem dX5_advance_54 : decode cX5_advance 54 = .ok (.aload_n 0, 1) := by decide +kernel
theorem dX5_advance_55 : decode cX5_advance 55 = .ok (.getfield 43, 3) := by decide +kernel
theorem dX5_advance_58 : decode cX5_advance 58 = .ok (.aload_n 0, 1) := by decide +kernel
theorem dX5_advance_59 : decode cX5_advance 59 = .ok (.getfield 15, 3) := by decide +kernel
theorem dX5_advance_62 : decode cX5_advance 62 = .ok (.if_icmp .lt 9, 3) := by decide +kernel
theorem dX5_advance_65 : decode cX5_advance 65 = .ok (.aload_n 0, 1) := by decide +kernel
theorem dX5_advance_66 : decode cX5_advance 66 = .ok (.iconst (-1), 1) := by decide +kernel
theorem dX5_advance_67 : decode cX5_advance 67 = .ok (.putfield 30, 3) := by decide +kernel
theorem dX5_advance_70 : decode cX5_advance 70 = .ok (.return_, 1) := by decide +kernel
theorem dX5_advance_71 : decode cX5_advance 71 = .ok (.aload_n 0, 1) := by decide +kernel
theorem dX5_advance_72 : decode cX5_advance 72 = .ok (.getfield 9, 3) := by decide +kernel
theorem dX5_advance_75 : decode cX5_advance 75 = .ok (.aload_n 0, 1) := by decide +kernel
theorem dX5_advance_76 : decode cX5_advance 76 = .ok (.getfield 43, 3) := by decide +kernel
theorem dX5_advance_79 : decode cX5_advance 79 = .ok (.iaload, 1) := by decide +kernel
theorem dX5_advance_80 : decode cX5_advance 80 = .ok (.istore_n 1, 1) := by decide +kernel
theorem dX5_advance_81 : decode cX5_advance 81 = .ok (.iload_n 1, 1) := by decide +kernel
theorem dX5_advance_82 : decode cX5_advance 82 = .ok (.invokestatic 77, 3) := by decide +kernel
theorem dX5_advance_85 : decode cX5_advance 85 = .ok (.ifCond .eq 8, 3) := by decide +kernel
theorem dX5_advance_88 : decode cX5_advance 88 = .ok (.aload_n 0, 1) := by decide +kernel
theorem dX5_advance_89 : decode cX5_advance 89 = .ok (.invokevirtual 81, 3) := by decide +kernel
theorem dX5_advance_92 : decode cX5_advance 92 = .ok (.return_, 1) := by decide +kernel
theorem dX5_advance_93 : decode cX5_advance 93 = .ok (.aload_n 0, 1) := by decide +kernel
theorem dX5_advance_94 : decode cX5_advance 94 = .ok (.aload_n 0, 1) := by decide +kernel
theorem dX5_advance_95 : decode cX5_advance 95 = .ok (.getfield 43, 3) := by decide +kernel
theorem dX5_advance_98 : decode cX5_advance 98 = .ok (.iconst 1, 1) := by decide +kernel
theorem dX5_advance_99 : decode cX5_advance 99 = .ok (.iadd, 1) := by decide +kernel
theorem dX5_advance_100 : decode cX5_advance 100 = .ok (.putfield 24, 3) := by decide +kernel
theorem dX5_advance_103 : decode cX5_advance 103 = .ok (.aload_n 0, 1) := by decide +kernel
theorem dX5_advance_104 : decode cX5_advance 104 = .ok (.iload_n 1, 1) := by decide +kernel
theorem dX5_advance_105 : decode cX5_advance 105 = .ok (.bipush 112, 2) := by decide +kernel
theorem dX5_advance_107 : decode cX5_advance 107 = .ok (.if_icmp .eq 21, 3) := by decide +kernel
theorem dX5_advance_110 : decode cX5_advance 110 = .ok (.iload_n 1, 1) := by decide +kernel
theorem dX5_advance_111 : decode cX5_advance 111 = .ok (.bipush 114, 2) := by decide +kernel
theorem dX5_advance_113 : decode cX5_advance 113 = .ok (.if_icmp .eq 15, 3) := by decide +kernel
theorem dX5_advance_116 : decode cX5_advance 116 = .ok (.iload_n 1, 1) := by decide +kernel
theorem dX5_advance_117 : decode cX5_advance 117 = .ok (.bipush 115, 2) := by decide +kernel
theorem dX5_advance_119 : decode cX5_advance 119 = .ok (.if_icmp .eq 9, 3) := by decide +kernel
theorem dX5_advance_122 : decode cX5_advance 122 = .ok (.iload_n 1, 1) := by decide +kernel
theorem dX5_advance_123 : decode cX5_advance 123 = .ok (.bipush 59, 2) := by decide +kernel
theorem dX5_advance_125 : decode cX5_advance 125 = .ok (.if_icmp .ne 7, 3) := by decide +kernel
theorem dX5_advance_128 : decode cX5_advance 128 = .ok (.iload_n 1, 1) := by decide +kernel
theorem dX5_advance_129 : decode cX5_advance 129 = .ok (.goto 5, 3) := by decide +kernel
theorem dX5_advance_132 : decode cX5_advance 132 = .ok (.bipush (-3), 2) := by decide +kernel
theorem dX5_advance_134 : decode cX5_advance 134 = .ok (.putfield 30, 3) := by decide +kernel
theorem dX5_advance_137 : decode cX5_advance 137 = .ok (.return_, 1) := by decide +kernel
set_option maxRecDepth 20000 in
theorem ggX5_takeFigures_X5_isFigure : GoodIn wsX5_takeFigures wsX5_isFigure := goodIn_r _ [14] (by decide +kernel) (by decide +kernel)
set_option maxRecDepth 20000 in
theorem gX5_takeFigures_X5_isFigure : GoodIn wsX5_takeFigures (va_wsS RX5 77 yX5_isFigure wsX5_isFigure) := goodIn_app (goodIn_of _ (by decide +kernel)) ggX5_takeFigures_X5_isFigure
theorem dX5_takeFigures_0 : decode cX5_takeFigures 0 = .ok (.aload_n 0, 1) := by decide +kernel
theorem dX5_takeFigures_1 : decode cX5_takeFigures 1 = .ok (.iconst 0, 1) := by decide +kernel
theorem dX5_takeFigures_2 : decode cX5_takeFigures 2 = .ok (.putfield 53, 3) := by decide +kernel
theorem dX5_takeFigures_5 : decode cX5_takeFigures 5 = .ok (.aload_n 0, 1) := by decide +kernel
theorem dX5_takeFigures_6 : decode cX5_takeFigures 6 = .ok (.getfield 24, 3) := by decide +kernel
theorem dX5_takeFigures_9 : decode cX5_takeFigures 9 = .ok (.aload_n 0, 1) := by decide +kernel
theorem dX5_takeFigures_10 : decode cX5_takeFigures 10 = .ok (.getfield 15, 3) := by decide +kernel
theorem dX5_takeFigures_13 : decode cX5_takeFigures 13 = .ok (.if_icmp .ge 60, 3) := by decide +kernel
theorem dX5_takeFigures_16 : decode cX5_takeFigures 16 = .ok (.aload_n 0, 1) := by decide +kernel
theorem dX5_takeFigures_17 : decode cX5_takeFigures 17 = .ok (.getfield 9, 3) := by decide +kernel
theorem dX5_takeFigures_20 : decode cX5_takeFigures 20 = .ok (.aload_n 0, 1) := by decide +kernel
theorem dX5_takeFigures_21 : decode cX5_takeFigures 21 = .ok (.getfield 24, 3) := by decide +kernel
theorem dX5_takeFigures_24 : decode cX5_takeFigures 24 = .ok (.iaload, 1) := by decide +kernel
theorem dX5_takeFigures_25 : decode cX5_takeFigures 25 = .ok (.invokestatic 77, 3) := by decide +kernel
theorem dX5_takeFigures_28 : decode cX5_takeFigures 28 = .ok (.ifCond .eq 45, 3) := by decide +kernel
theorem dX5_takeFigures_31 : decode cX5_takeFigures 31 = .ok (.aload_n 0, 1) := by decide +kernel
theorem dX5_takeFigures_32 : decode cX5_takeFigures 32 = .ok (.aload_n 0, 1) := by decide +kernel
theorem dX5_takeFigures_33 : decode cX5_takeFigures 33 = .ok (.getfield 53, 3) := by decide +kernel
theorem dX5_takeFigures_36 : decode cX5_takeFigures 36 = .ok (.bipush 10, 2) := by decide +kernel
theorem dX5_takeFigures_38 : decode cX5_takeFigures 38 = .ok (.imul, 1) := by decide +kernel
theorem dX5_takeFigures_39 : decode cX5_takeFigures 39 = .ok (.aload_n 0, 1) := by decide +kernel
theorem dX5_takeFigures_40 : decode cX5_takeFigures 40 = .ok (.getfield 9, 3) := by decide +kernel
theorem dX5_takeFigures_43 : decode cX5_takeFigures 43 = .ok (.aload_n 0, 1) := by decide +kernel
theorem dX5_takeFigures_44 : decode cX5_takeFigures 44 = .ok (.getfield 24, 3) := by decide +kernel
theorem dX5_takeFigures_47 : decode cX5_takeFigures 47 = .ok (.iaload, 1) := by decide +kernel
theorem dX5_takeFigures_48 : decode cX5_takeFigures 48 = .ok (.iadd, 1) := by decide +kernel
theorem dX5_takeFigures_49 : decode cX5_takeFigures 49 = .ok (.bipush 48, 2) := by decide +kernel
theorem dX5_takeFigures_51 : decode cX5_takeFigures 51 = .ok (.isub, 1) := by decide +kernel
theorem dX5_takeFigures_52 : decode cX5_takeFigures 52 = .ok (.bipush 100, 2) := by decide +kernel
theorem dX5_takeFigures_54 : decode cX5_takeFigures 54 = .ok (.invokestatic 84, 3) := by decide +kernel
theorem dX5_takeFigures_57 : decode cX5_takeFigures 57 = .ok (.putfield 53, 3) := by decide +kernel
theorem dX5_takeFigures_60 : decode cX5_takeFigures 60 = .ok (.aload_n 0, 1) := by decide +kernel
theorem dX5_takeFigures_61 : decode cX5_takeFigures 61 = .ok (.dup, 1) := by decide +kernel
theorem dX5_takeFigures_62 : decode cX5_takeFigures 62 = .ok (.getfield 24, 3) := by decide +kernel
theorem dX5_takeFigures_65 : decode cX5_takeFigures 65 = .ok (.iconst 1, 1) := by decide +kernel
theorem dX5_takeFigures_66 : decode cX5_takeFigures 66 = .ok (.iadd, 1) := by decide +kernel
theorem dX5_takeFigures_67 : decode cX5_takeFigures 67 = .ok (.putfield 24, 3) := by decide +kernel
theorem dX5_takeFigures_70 : decode cX5_takeFigures 70 = .ok (.goto (-65), 3) := by decide +kernel
theorem dX5_takeFigures_73 : decode cX5_takeFigures 73 = .ok (.aload_n 0, 1) := by decide +kernel
theorem dX5_takeFigures_74 : decode cX5_takeFigures 74 = .ok (.getfield 9, 3) := by decide +kernel
theorem dX5_takeFigures_77 : decode cX5_takeFigures 77 = .ok (.aload_n 0, 1) := by decide +kernel
theorem dX5_takeFigures_78 : decode cX5_takeFigures 78 = .ok (.getfield 43, 3) := by decide +kernel
theorem dX5_takeFigures_81 : decode cX5_takeFigures 81 = .ok (.iaload, 1) := by decide +kernel
theorem dX5_takeFigures_82 : decode cX5_takeFigures 82 = .ok (.bipush 48, 2) := by decide +kernel
theorem dX5_takeFigures_84 : decode cX5_takeFigures 84 = .ok (.if_icmp .ne 20, 3) := by decide +kernel
theorem dX5_takeFigures_87 : decode cX5_takeFigures 87 = .ok (.aload_n 0, 1) := by decide +kernel
theorem dX5_takeFigures_88 : decode cX5_takeFigures 88 = .ok (.getfield 24, 3) := by decide +kernel
theorem dX5_takeFigures_91 : decode cX5_takeFigures 91 = .ok (.aload_n 0, 1) := by decide +kernel
theorem dX5_takeFigures_92 : decode cX5_takeFigures 92 = .ok (.getfield 43, 3) := by decide +kernel
theorem dX5_takeFigures_95 : decode cX5_takeFigures 95 = .ok (.isub, 1) := by decide +kernel
theorem dX5_takeFigures_96 : decode cX5_takeFigures 96 = .ok (.iconst 1, 1) := by decide +kernel
theorem dX5_takeFigures_97 : decode cX5_takeFigures 97 = .ok (.if_icmp .le 7, 3) := by decide +kernel
theorem dX5_takeFigures_100 : decode cX5_takeFigures 100 = .ok (.iconst 1, 1) := by decide +kernel
theorem dX5_takeFigures_101 : decode cX5_takeFigures 101 = .ok (.goto 4, 3) := by decide +kernel
theorem dX5_takeFigures_104 : decode cX5_takeFigures 104 = .ok (.iconst 0, 1) := by decide +kernel
theorem dX5_takeFigures_105 : decode cX5_takeFigures 105 = .ok (.istore_n 1, 1) := by decide +kernel
theorem dX5_takeFigures_106 : decode cX5_takeFigures 106 = .ok (.aload_n 0, 1) := by decide +kernel
theorem dX5_takeFigures_107 : decode cX5_takeFigures 107 = .ok (.iload_n 1, 1) := by decide +kernel
theorem dX5_takeFigures_108 : decode cX5_takeFigures 108 = .ok (.ifCond .ne 12, 3) := by decide +kernel
theorem dX5_takeFigures_111 : decode cX5_takeFigures 111 = .ok (.aload_n 0, 1) := by decide +kernel
theorem dX5_takeFigures_112 : decode cX5_takeFigures 112 = .ok (.getfield 53, 3) := by decide +kernel
theorem dX5_takeFigures_115 : decode cX5_takeFigures 115 = .ok (.bipush 99, 2) := by decide +kernel
theorem dX5_takeFigures_117 : decode cX5_takeFigures 117 = .ok (.if_icmp .le 8, 3) := by decide +kernel
theorem dX5_takeFigures_120 : decode cX5_takeFigures 120 = .ok (.bipush (-3), 2) := by decide +kernel
theorem dX5_takeFigures_122 : decode cX5_takeFigures 122 = .ok (.goto 5, 3) := by decide +kernel
theorem dX5_takeFigures_125 : decode cX5_takeFigures 125 = .ok (.bipush (-2), 2) := by decide +kernel
theorem dX5_takeFigures_127 : decode cX5_takeFigures 127 = .ok (.putfield 30, 3) := by decide +kernel
theorem dX5_takeFigures_130 : decode cX5_takeFigures 130 = .ok (.return_, 1) := by decide +kernel
theorem dX5_isFigure_0 : decode cX5_isFigure 0 = .ok (.iload_n 0, 1) := by decide +kernel
theorem dX5_isFigure_1 : decode cX5_isFigure 1 = .ok (.bipush 48, 2) := by decide +kernel
theorem dX5_isFigure_3 : decode cX5_isFigure 3 = .ok (.if_icmp .lt 13, 3) := by decide +kernel
theorem dX5_isFigure_6 : decode cX5_isFigure 6 = .ok (.iload_n 0, 1) := by decide +kernel
theorem dX5_isFigure_7 : decode cX5_isFigure 7 = .ok (.bipush 57, 2) := by decide +kernel
theorem dX5_isFigure_9 : decode cX5_isFigure 9 = .ok (.if_icmp .gt 7, 3) := by decide +kernel
theorem dX5_isFigure_12 : decode cX5_isFigure 12 = .ok (.iconst 1, 1) := by decide +kernel
theorem dX5_isFigure_13 : decode cX5_isFigure 13 = .ok (.goto 4, 3) := by decide +kernel
theorem dX5_isFigure_16 : decode cX5_isFigure 16 = .ok (.iconst 0, 1) := by decide +kernel
theorem dX5_isFigure_17 : decode cX5_isFigure 17 = .ok (.ireturn, 1) := by decide +kernel
set_option maxRecDepth 20000 in
theorem ggX6_init_X2_init : GoodIn wsX6_init wsX2_init := goodIn_r _ [16, 17, 2, 3, 8, 18, 19, 20, 21, 22] (by decide +kernel) (by decide +kernel)
set_option maxRecDepth 20000 in
theorem gX6_init_X2_init_n11 : GoodIn wsX6_init (wsX2_init) := ggX6_init_X2_init
theorem dX6_init_0 : decode cX6_init 0 = .ok (.aload_n 0, 1) := by decide +kernel
theorem dX6_init_1 : decode cX6_init 1 = .ok (.invokespecial 3, 3) := by decide +kernel
theorem dX6_init_4 : decode cX6_init 4 = .ok (.aload_n 0, 1) := by decide +kernel
theorem dX6_init_5 : decode cX6_init 5 = .ok (.new 9, 3) := by decide +kernel
theorem dX6_init_8 : decode cX6_init 8 = .ok (.dup, 1) := by decide +kernel
theorem dX6_init_9 : decode cX6_init 9 = .ok (.invokespecial 11, 3) := by decide +kernel
theorem dX6_init_12 : decode cX6_init 12 = .ok (.putfield 12, 3) := by decide +kernel
theorem dX6_init_15 : decode cX6_init 15 = .ok (.aload_n 0, 1) := by decide +kernel
theorem dX6_init_16 : decode cX6_init 16 = .ok (.sipush 4096, 3) := by decide +kernel
theorem dX6_init_19 : decode cX6_init 19 = .ok (.newarray .int, 2) := by decide +kernel
theorem dX6_init_21 : decode cX6_init 21 = .ok (.putfield 18, 3) := by decide +kernel
theorem dX6_init_24 : decode cX6_init 24 = .ok (.aload_n 0, 1) := by decide +kernel
theorem dX6_init_25 : decode cX6_init 25 = .ok (.bipush 80, 2) := by decide +kernel
theorem dX6_init_27 : decode cX6_init 27 = .ok (.newarray .long, 2) := by decide +kernel
theorem dX6_init_29 : decode cX6_init 29 = .ok (.putfield 22, 3) := by decide +kernel
theorem dX6_init_32 : decode cX6_init 32 = .ok (.aload_n 0, 1) := by decide +kernel
theorem dX6_init_33 : decode cX6_init 33 = .ok (.bipush 8, 2) := by decide +kernel
theorem dX6_init_35 : decode cX6_init 35 = .ok (.newarray .int, 2) := by decide +kernel
theorem dX6_init_37 : decode cX6_init 37 = .ok (.putfield 26, 3) := by decide +kernel
theorem dX6_init_40 : decode cX6_init 40 = .ok (.aload_n 0, 1) := by decide +kernel
theorem dX6_init_41 : decode cX6_init 41 = .ok (.aload_n 1, 1) := by decide +kernel
theorem dX6_init_42 : decode cX6_init 42 = .ok (.putfield 29, 3) := by decide +kernel
theorem dX6_init_45 : decode cX6_init 45 = .ok (.aload_n 0, 1) := by decide +kernel
theorem dX6_init_46 : decode cX6_init 46 = .ok (.aload_n 2, 1) := by decide +kernel
theorem dX6_init_47 : decode cX6_init 47 = .ok (.putfield 33, 3) := by decide +kernel
theorem dX6_init_50 : decode cX6_init 50 = .ok (.return_, 1) := by decide +kernel
set_option maxRecDepth 20000 in
theorem ggX6_standAt_X1_bearingFrom : GoodIn wsX6_standAt wsX1_bearingFrom := goodIn_r _ [18, 19, 8, 9, 10, 20, 21, 22, 17, 23, 24, 25, 26, 27, 28, 29, 30, 31, 32, 33, 64, 65, 66, 67, 68, 69, 70, 71, 72, 73, 74] (by decide +kernel) (by decide +kernel)
set_option maxRecDepth 20000 in
theorem gX6_standAt_X1_bearingFrom : GoodIn wsX6_standAt (wsV RX6 46 RX1 yX1_bearingFrom wsX1_bearingFrom) := goodIn_app (goodIn_of _ (by decide +kernel)) ggX6_standAt_X1_bearingFrom
set_option maxRecDepth 20000 in
theorem ggX6_standAt_X1_heightFrom : GoodIn wsX6_standAt wsX1_heightFrom := goodIn_r _ [37, 38, 39, 40, 41, 17, 42, 19, 8, 9, 10, 43, 44, 45, 20, 21, 22, 23, 24, 25, 26, 27, 28, 29, 64, 65, 66, 67, 68, 69, 70, 71, 72, 73, 74] (by decide +kernel) (by decide +kernel)
set_option maxRecDepth 20000 in
theorem gX6_standAt_X1_heightFrom : GoodIn wsX6_standAt (wsV RX6 50 RX1 yX1_heightFrom wsX1_heightFrom) := goodIn_app (goodIn_of _ (by decide +kernel)) ggX6_standAt_X1_heightFrom
set_option maxRecDepth 20000 in
theorem ggX6_standAt_X6_looksAbout : GoodIn wsX6_standAt wsX6_looksAbout := goodIn_r _ [50, 1, 11, 51, 52, 32, 53, 54, 55, 56, 57, 58, 59, 60, 61, 62, 63, 64, 65, 66, 67, 68, 69, 70, 71, 72, 73, 74] (by decide +kernel) (by decide +kernel)
set_option maxRecDepth 20000 in
theorem gX6_standAt_X6_looksAbout : GoodIn wsX6_standAt (wsV RX6 73 RX6 yX6_looksAbout wsX6_looksAbout) := goodIn_app (goodIn_of _ (by decide +kernel)) ggX6_standAt_X6_looksAbout
theorem dX6_standAt_0 : decode cX6_standAt 0 = .ok (.lconst 0, 1) := by decide +kernel
theorem dX6_standAt_1 : decode cX6_standAt 1 = .ok (.lstore_n 3, 1) := by decide +kernel
theorem dX6_standAt_2 : decode cX6_standAt 2 = .ok (.aload_n 0, 1) := by decide +kernel
theorem dX6_standAt_3 : decode cX6_standAt 3 = .ok (.getfield 29, 3) := by decide +kernel
theorem dX6_standAt_6 : decode cX6_standAt 6 = .ok (.getfield 37, 3) := by decide +kernel
theorem dX6_standAt_9 : decode cX6_standAt 9 = .ok (.iload_n 1, 1) := by decide +kernel
theorem dX6_standAt_10 : decode cX6_standAt 10 = .ok (.iaload, 1) := by decide +kernel
theorem dX6_standAt_11 : decode cX6_standAt 11 = .ok (.iload_n 2, 1) := by decide +kernel
theorem dX6_standAt_12 : decode cX6_standAt 12 = .ok (.iand, 1) := by decide +kernel
theorem dX6_standAt_13 : decode cX6_standAt 13 = .ok (.istore 5, 2) := by decide +kernel
theorem dX6_standAt_15 : decode cX6_standAt 15 = .ok (.iconst 0, 1) := by decide +kernel
theorem dX6_standAt_16 : decode cX6_standAt 16 = .ok (.istore 6, 2) := by decide +kernel
theorem dX6_standAt_18 : decode cX6_standAt 18 = .ok (.iload 6, 2) := by decide +kernel
theorem dX6_standAt_20 : decode cX6_standAt 20 = .ok (.aload_n 0, 1) := by decide +kernel
theorem dX6_standAt_21 : decode cX6_standAt 21 = .ok (.getfield 29, 3) := by decide +kernel
theorem dX6_standAt_24 : decode cX6_standAt 24 = .ok (.getfield 42, 3) := by decide +kernel
theorem dX6_standAt_27 : decode cX6_standAt 27 = .ok (.if_icmp .ge 175, 3) := by decide +kernel
theorem dX6_standAt_30 : decode cX6_standAt 30 = .ok (.iload 5, 2) := by decide +kernel
theorem dX6_standAt_32 : decode cX6_standAt 32 = .ok (.iload 6, 2) := by decide +kernel
theorem dX6_standAt_34 : decode cX6_standAt 34 = .ok (.ishr, 1) := by decide +kernel
theorem dX6_standAt_35 : decode cX6_standAt 35 = .ok (.iconst 1, 1) := by decide +kernel
theorem dX6_standAt_36 : decode cX6_standAt 36 = .ok (.iand, 1) := by decide +kernel
theorem dX6_standAt_37 : decode cX6_standAt 37 = .ok (.ifCond .eq 7, 3) := by decide +kernel
theorem dX6_standAt_40 : decode cX6_standAt 40 = .ok (.iconst 1, 1) := by decide +kernel
theorem dX6_standAt_41 : decode cX6_standAt 41 = .ok (.goto 4, 3) := by decide +kernel
theorem dX6_standAt_44 : decode cX6_standAt 44 = .ok (.iconst 0, 1) := by decide +kernel
theorem dX6_standAt_45 : decode cX6_standAt 45 = .ok (.istore 7, 2) := by decide +kernel
theorem dX6_standAt_47 : decode cX6_standAt 47 = .ok (.iload 7, 2) := by decide +kernel
theorem dX6_standAt_49 : decode cX6_standAt 49 = .ok (.ifCond .eq 16, 3) := by decide +kernel
theorem dX6_standAt_52 : decode cX6_standAt 52 = .ok (.aload_n 0, 1) := by decide +kernel
theorem dX6_standAt_53 : decode cX6_standAt 53 = .ok (.getfield 29, 3) := by decide +kernel
theorem dX6_standAt_56 : decode cX6_standAt 56 = .ok (.iload_n 1, 1) := by decide +kernel
theorem dX6_standAt_57 : decode cX6_standAt 57 = .ok (.iload 6, 2) := by decide +kernel
theorem dX6_standAt_59 : decode cX6_standAt 59 = .ok (.invokevirtual 46, 3) := by decide +kernel
theorem dX6_standAt_62 : decode cX6_standAt 62 = .ok (.goto 4, 3) := by decide +kernel
theorem dX6_standAt_65 : decode cX6_standAt 65 = .ok (.iconst 0, 1) := by decide +kernel
theorem dX6_standAt_66 : decode cX6_standAt 66 = .ok (.istore 8, 2) := by decide +kernel
theorem dX6_standAt_68 : decode cX6_standAt 68 = .ok (.iload 7, 2) := by decide +kernel
theorem dX6_standAt_70 : decode cX6_standAt 70 = .ok (.ifCond .eq 16, 3) := by decide +kernel
theorem dX6_standAt_73 : decode cX6_standAt 73 = .ok (.aload_n 0, 1) := by decide +kernel
theorem dX6_standAt_74 : decode cX6_standAt 74 = .ok (.getfield 29, 3) := by decide +kernel
theorem dX6_standAt_77 : decode cX6_standAt 77 = .ok (.iload_n 1, 1) := by decide +kernel
theorem dX6_standAt_78 : decode cX6_standAt 78 = .ok (.iload 6, 2) := by decide +kernel
theorem dX6_standAt_80 : decode cX6_standAt 80 = .ok (.invokevirtual 50, 3) := by decide +kernel
theorem dX6_standAt_83 : decode cX6_standAt 83 = .ok (.goto 4, 3) := by decide +kernel
theorem dX6_standAt_86 : decode cX6_standAt 86 = .ok (.iconst 0, 1) := by decide +kernel
theorem dX6_standAt_87 : decode cX6_standAt 87 = .ok (.istore 9, 2) := by decide +kernel
theorem dX6_standAt_89 : decode cX6_standAt 89 = .ok (.iconst 0, 1) := by decide +kernel
theorem dX6_standAt_90 : decode cX6_standAt 90 = .ok (.istore 10, 2) := by decide +kernel
theorem dX6_standAt_92 : decode cX6_standAt 92 = .ok (.iload 10, 2) := by decide +kernel
theorem dX6_standAt_94 : decode cX6_standAt 94 = .ok (.aload_n 0, 1) := by decide +kernel
theorem dX6_standAt_95 : decode cX6_standAt 95 = .ok (.getfield 33, 3) := by decide +kernel
theorem dX6_standAt_98 : decode cX6_standAt 98 = .ok (.getfield 53, 3) := by decide +kernel
theorem dX6_standAt_101 : decode cX6_standAt 101 = .ok (.if_icmp .ge 95, 3) := by decide +kernel
theorem dX6_standAt_104 : decode cX6_standAt 104 = .ok (.iload 7, 2) := by decide +kernel
theorem dX6_standAt_106 : decode cX6_standAt 106 = .ok (.ifCond .eq 33, 3) := by decide +kernel
theorem dX6_standAt_109 : decode cX6_standAt 109 = .ok (.iload 9, 2) := by decide +kernel
theorem dX6_standAt_111 : decode cX6_standAt 111 = .ok (.aload_n 0, 1) := by decide +kernel
theorem dX6_standAt_112 : decode cX6_standAt 112 = .ok (.getfield 33, 3) := by decide +kernel
theorem dX6_standAt_115 : decode cX6_standAt 115 = .ok (.getfield 58, 3) := by decide +kernel
theorem dX6_standAt_118 : decode cX6_standAt 118 = .ok (.iload 10, 2) := by decide +kernel
theorem dX6_standAt_120 : decode cX6_standAt 120 = .ok (.iaload, 1) := by decide +kernel
theorem dX6_standAt_121 : decode cX6_standAt 121 = .ok (.isub, 1) := by decide +kernel
theorem dX6_standAt_122 : decode cX6_standAt 122 = .ok (.invokestatic 61, 3) := by decide +kernel
theorem dX6_standAt_125 : decode cX6_standAt 125 = .ok (.aload_n 0, 1) := by decide +kernel
theorem dX6_standAt_126 : decode cX6_standAt 126 = .ok (.getfield 29, 3) := by decide +kernel
theorem dX6_standAt_129 : decode cX6_standAt 129 = .ok (.getfield 67, 3) := by decide +kernel
theorem dX6_standAt_132 : decode cX6_standAt 132 = .ok (.if_icmp .gt 7, 3) := by decide +kernel
theorem dX6_standAt_135 : decode cX6_standAt 135 = .ok (.iconst 1, 1) := by decide +kernel
theorem dX6_standAt_136 : decode cX6_standAt 136 = .ok (.goto 4, 3) := by decide +kernel
theorem dX6_standAt_139 : decode cX6_standAt 139 = .ok (.iconst 0, 1) := by decide +kernel
theorem dX6_standAt_140 : decode cX6_standAt 140 = .ok (.istore 11, 2) := by decide +kernel
theorem dX6_standAt_142 : decode cX6_standAt 142 = .ok (.iload 11, 2) := by decide +kernel
theorem dX6_standAt_144 : decode cX6_standAt 144 = .ok (.ifCond .eq 23, 3) := by decide +kernel
theorem dX6_standAt_147 : decode cX6_standAt 147 = .ok (.aload_n 0, 1) := by decide +kernel
theorem dX6_standAt_148 : decode cX6_standAt 148 = .ok (.iload 8, 2) := by decide +kernel
theorem dX6_standAt_150 : decode cX6_standAt 150 = .ok (.aload_n 0, 1) := by decide +kernel
theorem dX6_standAt_151 : decode cX6_standAt 151 = .ok (.getfield 33, 3) := by decide +kernel
theorem dX6_standAt_154 : decode cX6_standAt 154 = .ok (.getfield 70, 3) := by decide +kernel
theorem dX6_standAt_157 : decode cX6_standAt 157 = .ok (.iload 10, 2) := by decide +kernel
theorem dX6_standAt_159 : decode cX6_standAt 159 = .ok (.iaload, 1) := by decide +kernel
theorem dX6_standAt_160 : decode cX6_standAt 160 = .ok (.isub, 1) := by decide +kernel
theorem dX6_standAt_161 : decode cX6_standAt 161 = .ok (.invokevirtual 73, 3) := by decide +kernel
theorem dX6_standAt_164 : decode cX6_standAt 164 = .ok (.goto 4, 3) := by decide +kernel
theorem dX6_standAt_167 : decode cX6_standAt 167 = .ok (.lconst 0, 1) := by decide +kernel
theorem dX6_standAt_168 : decode cX6_standAt 168 = .ok (.lstore 12, 2) := by decide +kernel
theorem dX6_standAt_170 : decode cX6_standAt 170 = .ok (.aload_n 0, 1) := by decide +kernel
theorem dX6_standAt_171 : decode cX6_standAt 171 = .ok (.getfield 22, 3) := by decide +kernel
theorem dX6_standAt_174 : decode cX6_standAt 174 = .ok (.iload 10, 2) := by decide +kernel
theorem dX6_standAt_176 : decode cX6_standAt 176 = .ok (.bipush 10, 2) := by decide +kernel
theorem dX6_standAt_178 : decode cX6_standAt 178 = .ok (.imul, 1) := by decide +kernel
theorem dX6_standAt_179 : decode cX6_standAt 179 = .ok (.iload 6, 2) := by decide +kernel
theorem dX6_standAt_181 : decode cX6_standAt 181 = .ok (.iadd, 1) := by decide +kernel
theorem dX6_standAt_182 : decode cX6_standAt 182 = .ok (.lload 12, 2) := by decide +kernel
theorem dX6_standAt_184 : decode cX6_standAt 184 = .ok (.lastore, 1) := by decide +kernel
theorem dX6_standAt_185 : decode cX6_standAt 185 = .ok (.lload_n 3, 1) := by decide +kernel
theorem dX6_standAt_186 : decode cX6_standAt 186 = .ok (.lload 12, 2) := by decide +kernel
theorem dX6_standAt_188 : decode cX6_standAt 188 = .ok (.lor, 1) := by decide +kernel
theorem dX6_standAt_189 : decode cX6_standAt 189 = .ok (.lstore_n 3, 1) := by decide +kernel
theorem dX6_standAt_190 : decode cX6_standAt 190 = .ok (.iinc 10 1, 3) := by decide +kernel
theorem dX6_standAt_193 : decode cX6_standAt 193 = .ok (.goto (-101), 3) := by decide +kernel
theorem dX6_standAt_196 : decode cX6_standAt 196 = .ok (.iinc 6 1, 3) := by decide +kernel
theorem dX6_standAt_199 : decode cX6_standAt 199 = .ok (.goto (-181), 3) := by decide +kernel
theorem dX6_standAt_202 : decode cX6_standAt 202 = .ok (.lload_n 3, 1) := by decide +kernel
theorem dX6_standAt_203 : decode cX6_standAt 203 = .ok (.lreturn, 1) := by decide +kernel
set_option maxRecDepth 20000 in
theorem ggX6_looksAbout_J9_floorMod_7cf53 : GoodIn wsX6_looksAbout wsJ9_floorMod_7cf53 := goodIn_r _ [6] (by decide +kernel) (by decide +kernel)
set_option maxRecDepth 20000 in
theorem gX6_looksAbout_J9_floorMod_7cf53 : GoodIn wsX6_looksAbout (va_wsS RX6 77 yJ9_floorMod_7cf53 wsJ9_floorMod_7cf53) := goodIn_app (goodIn_of _ (by decide +kernel)) ggX6_looksAbout_J9_floorMod_7cf53
theorem dX6_looksAbout_0 : decode cX6_looksAbout 0 = .ok (.lconst 0, 1) := by decide +kernel
theorem dX6_looksAbout_1 : decode cX6_looksAbout 1 = .ok (.lstore_n 2, 1) := by decide +kernel
theorem dX6_looksAbout_2 : decode cX6_looksAbout 2 = .ok (.aload_n 0, 1) := by decide +kernel
theorem dX6_looksAbout_3 : decode cX6_looksAbout 3 = .ok (.getfield 29, 3) := by decide +kernel
theorem dX6_looksAbout_6 : decode cX6_looksAbout 6 = .ok (.getfield 67, 3) := by decide +kernel
theorem dX6_looksAbout_9 : decode cX6_looksAbout 9 = .ok (.ineg, 1) := by decide +kernel
theorem dX6_looksAbout_10 : decode cX6_looksAbout 10 = .ok (.istore 4, 2) := by decide +kernel
theorem dX6_looksAbout_12 : decode cX6_looksAbout 12 = .ok (.iload 4, 2) := by decide +kernel
theorem dX6_looksAbout_14 : decode cX6_looksAbout 14 = .ok (.aload_n 0, 1) := by decide +kernel
theorem dX6_looksAbout_15 : decode cX6_looksAbout 15 = .ok (.getfield 29, 3) := by decide +kernel
theorem dX6_looksAbout_18 : decode cX6_looksAbout 18 = .ok (.getfield 67, 3) := by decide +kernel
theorem dX6_looksAbout_21 : decode cX6_looksAbout 21 = .ok (.if_icmp .gt 23, 3) := by decide +kernel
theorem dX6_looksAbout_24 : decode cX6_looksAbout 24 = .ok (.lload_n 2, 1) := by decide +kernel
theorem dX6_looksAbout_25 : decode cX6_looksAbout 25 = .ok (.lconst 1, 1) := by decide +kernel
theorem dX6_looksAbout_26 : decode cX6_looksAbout 26 = .ok (.iload_n 1, 1) := by decide +kernel
theorem dX6_looksAbout_27 : decode cX6_looksAbout 27 = .ok (.iload 4, 2) := by decide +kernel
theorem dX6_looksAbout_29 : decode cX6_looksAbout 29 = .ok (.iadd, 1) := by decide +kernel
theorem dX6_looksAbout_30 : decode cX6_looksAbout 30 = .ok (.bipush 64, 2) := by decide +kernel
theorem dX6_looksAbout_32 : decode cX6_looksAbout 32 = .ok (.invokestatic 77, 3) := by decide +kernel
theorem dX6_looksAbout_35 : decode cX6_looksAbout 35 = .ok (.lshl, 1) := by decide +kernel
theorem dX6_looksAbout_36 : decode cX6_looksAbout 36 = .ok (.lor, 1) := by decide +kernel
theorem dX6_looksAbout_37 : decode cX6_looksAbout 37 = .ok (.lstore_n 2, 1) := by decide +kernel
theorem dX6_looksAbout_38 : decode cX6_looksAbout 38 = .ok (.iinc 4 1, 3) := by decide +kernel
theorem dX6_looksAbout_41 : decode cX6_looksAbout 41 = .ok (.goto (-29), 3) := by decide +kernel
theorem dX6_looksAbout_44 : decode cX6_looksAbout 44 = .ok (.lload_n 2, 1) := by decide +kernel
theorem dX6_looksAbout_45 : decode cX6_looksAbout 45 = .ok (.lreturn, 1) := by decide +kernel
set_option maxRecDepth 20000 in
theorem ggX6_fitting_X6_isAmong : GoodIn wsX6_fitting wsX6_isAmong := goodIn_r _ [7] (by decide +kernel) (by decide +kernel)
set_option maxRecDepth 20000 in
theorem gX6_fitting_X6_isAmong : GoodIn wsX6_fitting (va_wsS RX6 80 yX6_isAmong wsX6_isAmong) := goodIn_app (goodIn_of _ (by decide +kernel)) ggX6_fitting_X6_isAmong
theorem dX6_fitting_0 : decode cX6_fitting 0 = .ok (.iconst 0, 1) := by decide +kernel
theorem dX6_fitting_1 : decode cX6_fitting 1 = .ok (.istore_n 3, 1) := by decide +kernel
theorem dX6_fitting_2 : decode cX6_fitting 2 = .ok (.iconst 0, 1) := by decide +kernel
theorem dX6_fitting_3 : decode cX6_fitting 3 = .ok (.istore 4, 2) := by decide +kernel
theorem dX6_fitting_5 : decode cX6_fitting 5 = .ok (.iload 4, 2) := by decide +kernel
theorem dX6_fitting_7 : decode cX6_fitting 7 = .ok (.aload_n 0, 1) := by decide +kernel
theorem dX6_fitting_8 : decode cX6_fitting 8 = .ok (.getfield 29, 3) := by decide +kernel
theorem dX6_fitting_11 : decode cX6_fitting 11 = .ok (.getfield 42, 3) := by decide +kernel
theorem dX6_fitting_14 : decode cX6_fitting 14 = .ok (.if_icmp .ge 35, 3) := by decide +kernel
theorem dX6_fitting_17 : decode cX6_fitting 17 = .ok (.aload_n 0, 1) := by decide +kernel
theorem dX6_fitting_18 : decode cX6_fitting 18 = .ok (.getfield 22, 3) := by decide +kernel
theorem dX6_fitting_21 : decode cX6_fitting 21 = .ok (.iload_n 2, 1) := by decide +kernel
theorem dX6_fitting_22 : decode cX6_fitting 22 = .ok (.bipush 10, 2) := by decide +kernel
theorem dX6_fitting_24 : decode cX6_fitting 24 = .ok (.imul, 1) := by decide +kernel
theorem dX6_fitting_25 : decode cX6_fitting 25 = .ok (.iload 4, 2) := by decide +kernel
theorem dX6_fitting_27 : decode cX6_fitting 27 = .ok (.iadd, 1) := by decide +kernel
theorem dX6_fitting_28 : decode cX6_fitting 28 = .ok (.laload, 1) := by decide +kernel
theorem dX6_fitting_29 : decode cX6_fitting 29 = .ok (.iload_n 1, 1) := by decide +kernel
theorem dX6_fitting_30 : decode cX6_fitting 30 = .ok (.invokestatic 80, 3) := by decide +kernel
theorem dX6_fitting_33 : decode cX6_fitting 33 = .ok (.ifCond .eq 10, 3) := by decide +kernel
theorem dX6_fitting_36 : decode cX6_fitting 36 = .ok (.iload_n 3, 1) := by decide +kernel
theorem dX6_fitting_37 : decode cX6_fitting 37 = .ok (.iconst 1, 1) := by decide +kernel
theorem dX6_fitting_38 : decode cX6_fitting 38 = .ok (.iload 4, 2) := by decide +kernel
theorem dX6_fitting_40 : decode cX6_fitting 40 = .ok (.ishl, 1) := by decide +kernel
theorem dX6_fitting_41 : decode cX6_fitting 41 = .ok (.ior, 1) := by decide +kernel
theorem dX6_fitting_42 : decode cX6_fitting 42 = .ok (.istore_n 3, 1) := by decide +kernel
theorem dX6_fitting_43 : decode cX6_fitting 43 = .ok (.iinc 4 1, 3) := by decide +kernel
theorem dX6_fitting_46 : decode cX6_fitting 46 = .ok (.goto (-41), 3) := by decide +kernel
theorem dX6_fitting_49 : decode cX6_fitting 49 = .ok (.iload_n 3, 1) := by decide +kernel
theorem dX6_fitting_50 : decode cX6_fitting 50 = .ok (.ireturn, 1) := by decide +kernel
theorem dX6_isAmong_0 : decode cX6_isAmong 0 = .ok (.lload_n 0, 1) := by decide +kernel
theorem dX6_isAmong_1 : decode cX6_isAmong 1 = .ok (.iload_n 2, 1) := by decide +kernel
theorem dX6_isAmong_2 : decode cX6_isAmong 2 = .ok (.lushr, 1) := by decide +kernel
theorem dX6_isAmong_3 : decode cX6_isAmong 3 = .ok (.lconst 1, 1) := by decide +kernel
theorem dX6_isAmong_4 : decode cX6_isAmong 4 = .ok (.land, 1) := by decide +kernel
theorem dX6_isAmong_5 : decode cX6_isAmong 5 = .ok (.lconst 0, 1) := by decide +kernel
theorem dX6_isAmong_6 : decode cX6_isAmong 6 = .ok (.lcmp, 1) := by decide +kernel
theorem dX6_isAmong_7 : decode cX6_isAmong 7 = .ok (.ifCond .eq 7, 3) := by decide +kernel
theorem dX6_isAmong_10 : decode cX6_isAmong 10 = .ok (.iconst 1, 1) := by decide +kernel
theorem dX6_isAmong_11 : decode cX6_isAmong 11 = .ok (.goto 4, 3) := by decide +kernel
theorem dX6_isAmong_14 : decode cX6_isAmong 14 = .ok (.iconst 0, 1) := by decide +kernel
theorem dX6_isAmong_15 : decode cX6_isAmong 15 = .ok (.ireturn, 1) := by decide +kernel
set_option maxRecDepth 20000 in
theorem ggX6_scoreWith_X6_standAt : GoodIn wsX6_scoreWith wsX6_standAt := goodIn_r _ [5, 6, 7, 8, 9, 10, 11, 12, 13, 14, 15, 16, 17, 18, 19, 20, 21, 22, 23, 24, 25, 26, 27, 28, 29, 30, 31, 32, 33, 34, 35, 36, 37, 38, 39, 40, 41, 42, 43, 44, 45, 46, 47, 48, 49, 50, 51, 52, 53, 4, 54, 55, 56, 57, 87, 88, 89, 90, 91, 92, 93, 94, 95, 96, 97, 98, 99, 100, 101, 102, 103, 104, 105, 106, 107, 108, 109, 110] (by decide +kernel) (by decide +kernel)
set_option maxRecDepth 20000 in
theorem gX6_scoreWith_X6_standAt : GoodIn wsX6_scoreWith (wsV RX6 84 RX6 yX6_standAt wsX6_standAt) := goodIn_app (goodIn_of _ (by decide +kernel)) ggX6_scoreWith_X6_standAt
set_option maxRecDepth 20000 in
theorem ggX6_scoreWith_X6_isAmong : GoodIn wsX6_scoreWith wsX6_isAmong := goodIn_r _ [60] (by decide +kernel) (by decide +kernel)
set_option maxRecDepth 20000 in
theorem gX6_scoreWith_X6_isAmong : GoodIn wsX6_scoreWith (va_wsS RX6 80 yX6_isAmong wsX6_isAmong) := goodIn_app (goodIn_of _ (by decide +kernel)) ggX6_scoreWith_X6_isAmong
set_option maxRecDepth 20000 in
theorem ggX6_scoreWith_X6_scoreOf : GoodIn wsX6_scoreWith wsX6_scoreOf := goodIn_r _ [64, 65, 9, 10, 66, 67, 68, 4, 69, 70, 71, 72, 73, 74, 6, 8, 18, 58, 59, 60, 75, 76, 77, 78, 79, 80, 81, 82, 83, 84, 85, 86, 87, 88, 89, 90, 91, 92, 93, 94, 95, 96, 108, 109, 110, 111, 112, 113, 97, 98, 99, 100, 101, 102, 103, 104, 105, 106, 107] (by decide +kernel) (by decide +kernel)
set_option maxRecDepth 20000 in
theorem gX6_scoreWith_X6_scoreOf : GoodIn wsX6_scoreWith (wsV RX6 88 RX6 yX6_scoreOf wsX6_scoreOf) := goodIn_app (goodIn_of _ (by decide +kernel)) ggX6_scoreWith_X6_scoreOf
theorem dX6_scoreWith_0 : decode cX6_scoreWith 0 = .ok (.aload_n 0, 1) := by decide +kernel
theorem dX6_scoreWith_1 : decode cX6_scoreWith 1 = .ok (.iload_n 1, 1) := by decide +kernel
theorem dX6_scoreWith_2 : decode cX6_scoreWith 2 = .ok (.iload_n 3, 1) := by decide +kernel
theorem dX6_scoreWith_3 : decode cX6_scoreWith 3 = .ok (.invokevirtual 84, 3) := by decide +kernel
theorem dX6_scoreWith_6 : decode cX6_scoreWith 6 = .ok (.iload_n 2, 1) := by decide +kernel
theorem dX6_scoreWith_7 : decode cX6_scoreWith 7 = .ok (.invokestatic 80, 3) := by decide +kernel
theorem dX6_scoreWith_10 : decode cX6_scoreWith 10 = .ok (.ifCond .eq 11, 3) := by decide +kernel
theorem dX6_scoreWith_13 : decode cX6_scoreWith 13 = .ok (.aload_n 0, 1) := by decide +kernel
theorem dX6_scoreWith_14 : decode cX6_scoreWith 14 = .ok (.iload_n 2, 1) := by decide +kernel
theorem dX6_scoreWith_15 : decode cX6_scoreWith 15 = .ok (.invokevirtual 88, 3) := by decide +kernel
theorem dX6_scoreWith_18 : decode cX6_scoreWith 18 = .ok (.goto 4, 3) := by decide +kernel
theorem dX6_scoreWith_21 : decode cX6_scoreWith 21 = .ok (.iconst 0, 1) := by decide +kernel
theorem dX6_scoreWith_22 : decode cX6_scoreWith 22 = .ok (.ireturn, 1) := by decide +kernel
set_option maxRecDepth 20000 in
theorem ggX6_scoreOf_X6_lookTo : GoodIn wsX6_scoreOf wsX6_lookTo := goodIn_r _ [8, 2, 3, 1, 9, 10, 11, 12, 7, 13, 14, 15, 16, 17, 18, 19, 32, 33, 34, 35, 36, 37, 38, 39, 40, 41, 42, 43, 44, 45, 46, 47, 48, 49, 50, 51, 52, 53, 54, 55, 56, 57, 58] (by decide +kernel) (by decide +kernel)
set_option maxRecDepth 20000 in
theorem gX6_scoreOf_X6_lookTo : GoodIn wsX6_scoreOf (wsV RX6 91 RX6 yX6_lookTo wsX6_lookTo) := goodIn_app (goodIn_of _ (by decide +kernel)) ggX6_scoreOf_X6_lookTo
set_option maxRecDepth 20000 in
theorem ggX6_scoreOf_X2_most : GoodIn wsX6_scoreOf wsX2_most := goodIn_r _ [24, 25, 26, 27, 28, 29, 30, 23, 31, 45, 46, 47] (by decide +kernel) (by decide +kernel)
set_option maxRecDepth 20000 in
theorem gX6_scoreOf_X2_most : GoodIn wsX6_scoreOf (wsV RX6 95 RX2 yX2_most wsX2_most) := goodIn_app (goodIn_of _ (by decide +kernel)) ggX6_scoreOf_X2_most
theorem dX6_scoreOf_0 : decode cX6_scoreOf 0 = .ok (.aload_n 0, 1) := by decide +kernel
theorem dX6_scoreOf_1 : decode cX6_scoreOf 1 = .ok (.iload_n 1, 1) := by decide +kernel
theorem dX6_scoreOf_2 : decode cX6_scoreOf 2 = .ok (.invokevirtual 91, 3) := by decide +kernel
theorem dX6_scoreOf_5 : decode cX6_scoreOf 5 = .ok (.aload_n 0, 1) := by decide +kernel
theorem dX6_scoreOf_6 : decode cX6_scoreOf 6 = .ok (.getfield 12, 3) := by decide +kernel
theorem dX6_scoreOf_9 : decode cX6_scoreOf 9 = .ok (.aload_n 0, 1) := by decide +kernel
theorem dX6_scoreOf_10 : decode cX6_scoreOf 10 = .ok (.getfield 33, 3) := by decide +kernel
theorem dX6_scoreOf_13 : decode cX6_scoreOf 13 = .ok (.getfield 53, 3) := by decide +kernel
theorem dX6_scoreOf_16 : decode cX6_scoreOf 16 = .ok (.bipush (-9), 2) := by decide +kernel
theorem dX6_scoreOf_18 : decode cX6_scoreOf 18 = .ok (.invokevirtual 95, 3) := by decide +kernel
theorem dX6_scoreOf_21 : decode cX6_scoreOf 21 = .ok (.ireturn, 1) := by decide +kernel
set_option maxRecDepth 20000 in
theorem ggX6_lookTo_X6_fitting : GoodIn wsX6_lookTo wsX6_fitting := goodIn_r _ [9, 10, 11, 12, 13, 14, 8, 15, 16, 17, 18, 19, 20, 21, 22, 23, 24, 25, 32, 33, 34, 35, 36, 37, 38, 39, 40, 41, 42] (by decide +kernel) (by decide +kernel)
set_option maxRecDepth 20000 in
theorem gX6_lookTo_X6_fitting : GoodIn wsX6_lookTo (wsV RX6 101 RX6 yX6_fitting wsX6_fitting) := goodIn_app (goodIn_of _ (by decide +kernel)) ggX6_lookTo_X6_fitting
theorem dX6_lookTo_0 : decode cX6_lookTo 0 = .ok (.iconst 0, 1) := by decide +kernel
theorem dX6_lookTo_1 : decode cX6_lookTo 1 = .ok (.istore_n 2, 1) := by decide +kernel
theorem dX6_lookTo_2 : decode cX6_lookTo 2 = .ok (.iload_n 2, 1) := by decide +kernel
theorem dX6_lookTo_3 : decode cX6_lookTo 3 = .ok (.aload_n 0, 1) := by decide +kernel
theorem dX6_lookTo_4 : decode cX6_lookTo 4 = .ok (.getfield 33, 3) := by decide +kernel
theorem dX6_lookTo_7 : decode cX6_lookTo 7 = .ok (.getfield 53, 3) := by decide +kernel
theorem dX6_lookTo_10 : decode cX6_lookTo 10 = .ok (.if_icmp .ge 24, 3) := by decide +kernel
theorem dX6_lookTo_13 : decode cX6_lookTo 13 = .ok (.aload_n 0, 1) := by decide +kernel
theorem dX6_lookTo_14 : decode cX6_lookTo 14 = .ok (.getfield 12, 3) := by decide +kernel
theorem dX6_lookTo_17 : decode cX6_lookTo 17 = .ok (.getfield 98, 3) := by decide +kernel
theorem dX6_lookTo_20 : decode cX6_lookTo 20 = .ok (.iload_n 2, 1) := by decide +kernel
theorem dX6_lookTo_21 : decode cX6_lookTo 21 = .ok (.aload_n 0, 1) := by decide +kernel
theorem dX6_lookTo_22 : decode cX6_lookTo 22 = .ok (.iload_n 1, 1) := by decide +kernel
theorem dX6_lookTo_23 : decode cX6_lookTo 23 = .ok (.iload_n 2, 1) := by decide +kernel
theorem dX6_lookTo_24 : decode cX6_lookTo 24 = .ok (.invokevirtual 101, 3) := by decide +kernel
theorem dX6_lookTo_27 : decode cX6_lookTo 27 = .ok (.iastore, 1) := by decide +kernel
theorem dX6_lookTo_28 : decode cX6_lookTo 28 = .ok (.iinc 2 1, 3) := by decide +kernel
theorem dX6_lookTo_31 : decode cX6_lookTo 31 = .ok (.goto (-29), 3) := by decide +kernel
theorem dX6_lookTo_34 : decode cX6_lookTo 34 = .ok (.return_, 1) := by decide +kernel
set_option maxRecDepth 20000 in
theorem ggX6_know_X1_allPeaks : GoodIn wsX6_know wsX1_allPeaks := goodIn_r _ [11, 12, 112, 113, 114, 115, 116, 117, 118, 119, 120, 121, 122] (by decide +kernel) (by decide +kernel)
set_option maxRecDepth 20000 in
theorem gX6_know_X1_allPeaks : GoodIn wsX6_know (wsV RX6 121 RX1 yX1_allPeaks wsX1_allPeaks) := goodIn_app (goodIn_of _ (by decide +kernel)) ggX6_know_X1_allPeaks
set_option maxRecDepth 20000 in
theorem ggX6_know_X6_standAt : GoodIn wsX6_know wsX6_standAt := goodIn_r _ [17, 5, 18, 19, 20, 21, 22, 23, 24, 25, 26, 27, 28, 29, 30, 31, 32, 10, 33, 34, 35, 36, 37, 38, 39, 40, 41, 42, 43, 44, 45, 46, 47, 48, 49, 50, 51, 52, 53, 54, 55, 56, 57, 58, 59, 60, 61, 62, 63, 16, 64, 65, 66, 67, 102, 103, 104, 105, 106, 107, 108, 109, 110, 111, 112, 113, 114, 115, 116, 117, 118, 119, 120, 121, 122, 123, 124, 125] (by decide +kernel) (by decide +kernel)
set_option maxRecDepth 20000 in
theorem gX6_know_X6_standAt : GoodIn wsX6_know (wsV RX6 84 RX6 yX6_standAt wsX6_standAt) := goodIn_app (goodIn_of _ (by decide +kernel)) ggX6_know_X6_standAt
set_option maxRecDepth 20000 in
theorem ggX6_know_X6_isAmong : GoodIn wsX6_know wsX6_isAmong := goodIn_r _ [70] (by decide +kernel) (by decide +kernel)
set_option maxRecDepth 20000 in
theorem gX6_know_X6_isAmong : GoodIn wsX6_know (va_wsS RX6 80 yX6_isAmong wsX6_isAmong) := goodIn_app (goodIn_of _ (by decide +kernel)) ggX6_know_X6_isAmong
set_option maxRecDepth 20000 in
theorem ggX6_know_X6_scoreOf : GoodIn wsX6_know wsX6_scoreOf := goodIn_r _ [74, 75, 20, 21, 76, 77, 78, 16, 79, 80, 81, 82, 83, 84, 5, 19, 29, 68, 69, 70, 85, 86, 87, 88, 89, 90, 91, 92, 93, 94, 95, 96, 102, 103, 104, 105, 106, 107, 108, 109, 110, 111, 123, 124, 125, 126, 127, 128, 112, 113, 114, 115, 116, 117, 118, 119, 120, 121, 122] (by decide +kernel) (by decide +kernel)
set_option maxRecDepth 20000 in
theorem gX6_know_X6_scoreOf : GoodIn wsX6_know (wsV RX6 88 RX6 yX6_scoreOf wsX6_scoreOf) := goodIn_app (goodIn_of _ (by decide +kernel)) ggX6_know_X6_scoreOf
set_option maxRecDepth 20000 in
theorem ggX6_know_X6_enter : GoodIn wsX6_know wsX6_enter := goodIn_r _ [100, 101, 20, 21, 2, 4, 3, 102, 103, 104, 105, 106, 107, 108, 109, 110, 111, 123, 124, 125] (by decide +kernel) (by decide +kernel)
set_option maxRecDepth 20000 in
theorem gX6_know_X6_enter : GoodIn wsX6_know (wsV RX6 125 RX6 yX6_enter wsX6_enter) := goodIn_app (goodIn_of _ (by decide +kernel)) ggX6_know_X6_enter
theorem dX6_know_0 : decode cX6_know 0 = .ok (.aload_n 0, 1) := by decide +kernel
theorem dX6_know_1 : decode cX6_know 1 = .ok (.getfield 104, 3) := by decide +kernel
theorem dX6_know_4 : decode cX6_know 4 = .ok (.ifCond .eq 4, 3) := by decide +kernel
theorem dX6_know_7 : decode cX6_know 7 = .ok (.return_, 1) := by decide +kernel
theorem dX6_know_8 : decode cX6_know 8 = .ok (.aload_n 0, 1) := by decide +kernel
theorem dX6_know_9 : decode cX6_know 9 = .ok (.iconst 1, 1) := by decide +kernel
theorem dX6_know_10 : decode cX6_know 10 = .ok (.putfield 104, 3) := by decide +kernel
theorem dX6_know_13 : decode cX6_know 13 = .ok (.aload_n 0, 1) := by decide +kernel
theorem dX6_know_14 : decode cX6_know 14 = .ok (.iconst 0, 1) := by decide +kernel
theorem dX6_know_15 : decode cX6_know 15 = .ok (.putfield 108, 3) := by decide +kernel
theorem dX6_know_18 : decode cX6_know 18 = .ok (.aload_n 0, 1) := by decide +kernel
theorem dX6_know_19 : decode cX6_know 19 = .ok (.bipush (-9), 2) := by decide +kernel
theorem dX6_know_21 : decode cX6_know 21 = .ok (.putfield 111, 3) := by decide +kernel
theorem dX6_know_24 : decode cX6_know 24 = .ok (.aload_n 0, 1) := by decide +kernel
theorem dX6_know_25 : decode cX6_know 25 = .ok (.iconst (-1), 1) := by decide +kernel
theorem dX6_know_26 : decode cX6_know 26 = .ok (.putfield 114, 3) := by decide +kernel
theorem dX6_know_29 : decode cX6_know 29 = .ok (.iconst 0, 1) := by decide +kernel
theorem dX6_know_30 : decode cX6_know 30 = .ok (.istore_n 1, 1) := by decide +kernel
theorem dX6_know_31 : decode cX6_know 31 = .ok (.iload_n 1, 1) := by decide +kernel
theorem dX6_know_32 : decode cX6_know 32 = .ok (.bipush 64, 2) := by decide +kernel
theorem dX6_know_34 : decode cX6_know 34 = .ok (.if_icmp .ge 106, 3) := by decide +kernel
theorem dX6_know_37 : decode cX6_know 37 = .ok (.aload_n 0, 1) := by decide +kernel
theorem dX6_know_38 : decode cX6_know 38 = .ok (.getfield 29, 3) := by decide +kernel
theorem dX6_know_41 : decode cX6_know 41 = .ok (.getfield 117, 3) := by decide +kernel
theorem dX6_know_44 : decode cX6_know 44 = .ok (.iload_n 1, 1) := by decide +kernel
theorem dX6_know_45 : decode cX6_know 45 = .ok (.baload, 1) := by decide +kernel
theorem dX6_know_46 : decode cX6_know 46 = .ok (.ifCond .ne 7, 3) := by decide +kernel
theorem dX6_know_49 : decode cX6_know 49 = .ok (.iconst 1, 1) := by decide +kernel
theorem dX6_know_50 : decode cX6_know 50 = .ok (.goto 4, 3) := by decide +kernel
theorem dX6_know_53 : decode cX6_know 53 = .ok (.iconst 0, 1) := by decide +kernel
theorem dX6_know_54 : decode cX6_know 54 = .ok (.istore_n 2, 1) := by decide +kernel
theorem dX6_know_55 : decode cX6_know 55 = .ok (.iload_n 2, 1) := by decide +kernel
theorem dX6_know_56 : decode cX6_know 56 = .ok (.ifCond .eq 18, 3) := by decide +kernel
theorem dX6_know_59 : decode cX6_know 59 = .ok (.aload_n 0, 1) := by decide +kernel
theorem dX6_know_60 : decode cX6_know 60 = .ok (.iload_n 1, 1) := by decide +kernel
theorem dX6_know_61 : decode cX6_know 61 = .ok (.aload_n 0, 1) := by decide +kernel
theorem dX6_know_62 : decode cX6_know 62 = .ok (.getfield 29, 3) := by decide +kernel
theorem dX6_know_65 : decode cX6_know 65 = .ok (.invokevirtual 121, 3) := by decide +kernel
theorem dX6_know_68 : decode cX6_know 68 = .ok (.invokevirtual 84, 3) := by decide +kernel
theorem dX6_know_71 : decode cX6_know 71 = .ok (.goto 4, 3) := by decide +kernel
theorem dX6_know_74 : decode cX6_know 74 = .ok (.lconst 0, 1) := by decide +kernel
theorem dX6_know_75 : decode cX6_know 75 = .ok (.lstore_n 3, 1) := by decide +kernel
theorem dX6_know_76 : decode cX6_know 76 = .ok (.iconst 0, 1) := by decide +kernel
theorem dX6_know_77 : decode cX6_know 77 = .ok (.istore 5, 2) := by decide +kernel
theorem dX6_know_79 : decode cX6_know 79 = .ok (.iload 5, 2) := by decide +kernel
theorem dX6_know_81 : decode cX6_know 81 = .ok (.bipush 64, 2) := by decide +kernel
theorem dX6_know_83 : decode cX6_know 83 = .ok (.if_icmp .ge 51, 3) := by decide +kernel
theorem dX6_know_86 : decode cX6_know 86 = .ok (.iload_n 2, 1) := by decide +kernel
theorem dX6_know_87 : decode cX6_know 87 = .ok (.ifCond .eq 7, 3) := by decide +kernel
theorem dX6_know_90 : decode cX6_know 90 = .ok (.iconst 0, 1) := by decide +kernel
theorem dX6_know_91 : decode cX6_know 91 = .ok (.goto 4, 3) := by decide +kernel
theorem dX6_know_94 : decode cX6_know 94 = .ok (.iconst (-1), 1) := by decide +kernel
theorem dX6_know_95 : decode cX6_know 95 = .ok (.istore 6, 2) := by decide +kernel
theorem dX6_know_97 : decode cX6_know 97 = .ok (.aload_n 0, 1) := by decide +kernel
theorem dX6_know_98 : decode cX6_know 98 = .ok (.iload_n 1, 1) := by decide +kernel
theorem dX6_know_99 : decode cX6_know 99 = .ok (.bipush 64, 2) := by decide +kernel
theorem dX6_know_101 : decode cX6_know 101 = .ok (.imul, 1) := by decide +kernel
theorem dX6_know_102 : decode cX6_know 102 = .ok (.iload 5, 2) := by decide +kernel
theorem dX6_know_104 : decode cX6_know 104 = .ok (.iadd, 1) := by decide +kernel
theorem dX6_know_105 : decode cX6_know 105 = .ok (.lload_n 3, 1) := by decide +kernel
theorem dX6_know_106 : decode cX6_know 106 = .ok (.iload 5, 2) := by decide +kernel
theorem dX6_know_108 : decode cX6_know 108 = .ok (.invokestatic 80, 3) := by decide +kernel
theorem dX6_know_111 : decode cX6_know 111 = .ok (.ifCond .eq 12, 3) := by decide +kernel
theorem dX6_know_114 : decode cX6_know 114 = .ok (.aload_n 0, 1) := by decide +kernel
theorem dX6_know_115 : decode cX6_know 115 = .ok (.iload 5, 2) := by decide +kernel
theorem dX6_know_117 : decode cX6_know 117 = .ok (.invokevirtual 88, 3) := by decide +kernel
theorem dX6_know_120 : decode cX6_know 120 = .ok (.goto 5, 3) := by decide +kernel
theorem dX6_know_123 : decode cX6_know 123 = .ok (.iload 6, 2) := by decide +kernel
theorem dX6_know_125 : decode cX6_know 125 = .ok (.invokevirtual 125, 3) := by decide +kernel
theorem dX6_know_128 : decode cX6_know 128 = .ok (.iinc 5 1, 3) := by decide +kernel
theorem dX6_know_131 : decode cX6_know 131 = .ok (.goto (-52), 3) := by decide +kernel
theorem dX6_know_134 : decode cX6_know 134 = .ok (.iinc 1 1, 3) := by decide +kernel
theorem dX6_know_137 : decode cX6_know 137 = .ok (.goto (-106), 3) := by decide +kernel
theorem dX6_know_140 : decode cX6_know 140 = .ok (.return_, 1) := by decide +kernel
theorem dX6_enter_0 : decode cX6_enter 0 = .ok (.aload_n 0, 1) := by decide +kernel
theorem dX6_enter_1 : decode cX6_enter 1 = .ok (.getfield 18, 3) := by decide +kernel
theorem dX6_enter_4 : decode cX6_enter 4 = .ok (.iload_n 1, 1) := by decide +kernel
theorem dX6_enter_5 : decode cX6_enter 5 = .ok (.iload_n 2, 1) := by decide +kernel
theorem dX6_enter_6 : decode cX6_enter 6 = .ok (.iastore, 1) := by decide +kernel
theorem dX6_enter_7 : decode cX6_enter 7 = .ok (.iload_n 2, 1) := by decide +kernel
theorem dX6_enter_8 : decode cX6_enter 8 = .ok (.aload_n 0, 1) := by decide +kernel
theorem dX6_enter_9 : decode cX6_enter 9 = .ok (.getfield 33, 3) := by decide +kernel
theorem dX6_enter_12 : decode cX6_enter 12 = .ok (.getfield 53, 3) := by decide +kernel
theorem dX6_enter_15 : decode cX6_enter 15 = .ok (.if_icmp .ne 13, 3) := by decide +kernel
theorem dX6_enter_18 : decode cX6_enter 18 = .ok (.aload_n 0, 1) := by decide +kernel
theorem dX6_enter_19 : decode cX6_enter 19 = .ok (.dup, 1) := by decide +kernel
theorem dX6_enter_20 : decode cX6_enter 20 = .ok (.getfield 108, 3) := by decide +kernel
theorem dX6_enter_23 : decode cX6_enter 23 = .ok (.iconst 1, 1) := by decide +kernel
theorem dX6_enter_24 : decode cX6_enter 24 = .ok (.iadd, 1) := by decide +kernel
theorem dX6_enter_25 : decode cX6_enter 25 = .ok (.putfield 108, 3) := by decide +kernel
theorem dX6_enter_28 : decode cX6_enter 28 = .ok (.iload_n 2, 1) := by decide +kernel
theorem dX6_enter_29 : decode cX6_enter 29 = .ok (.aload_n 0, 1) := by decide +kernel
theorem dX6_enter_30 : decode cX6_enter 30 = .ok (.getfield 114, 3) := by decide +kernel
theorem dX6_enter_33 : decode cX6_enter 33 = .ok (.if_icmp .le 13, 3) := by decide +kernel
theorem dX6_enter_36 : decode cX6_enter 36 = .ok (.aload_n 0, 1) := by decide +kernel
theorem dX6_enter_37 : decode cX6_enter 37 = .ok (.iload_n 1, 1) := by decide +kernel
theorem dX6_enter_38 : decode cX6_enter 38 = .ok (.putfield 111, 3) := by decide +kernel
theorem dX6_enter_41 : decode cX6_enter 41 = .ok (.aload_n 0, 1) := by decide +kernel
theorem dX6_enter_42 : decode cX6_enter 42 = .ok (.iload_n 2, 1) := by decide +kernel
theorem dX6_enter_43 : decode cX6_enter 43 = .ok (.putfield 114, 3) := by decide +kernel
theorem dX6_enter_46 : decode cX6_enter 46 = .ok (.return_, 1) := by decide +kernel
set_option maxRecDepth 20000 in
theorem ggX6_wholeView_X6_know : GoodIn wsX6_wholeView wsX6_know := goodIn_r _ [9, 10, 1, 11, 12, 13, 14, 15, 16, 17, 18, 19, 20, 21, 22, 23, 8, 24, 25, 26, 3, 4, 27, 28, 29, 30, 31, 32, 33, 34, 35, 36, 37, 38, 39, 40, 41, 42, 43, 44, 45, 46, 47, 48, 49, 50, 51, 52, 53, 54, 55, 56, 57, 58, 59, 60, 61, 62, 63, 64, 65, 66, 67, 68, 69, 70, 71, 72, 73, 74, 75, 76, 77, 78, 79, 80, 81, 82, 83, 84, 85, 86, 87, 88, 89, 90, 91, 92, 93, 94, 95, 96, 97, 98, 99, 100, 101, 102, 103, 104, 105, 2, 106, 107, 108, 109, 110, 111, 112, 113, 114, 115, 119, 120, 121, 122, 123, 124, 125, 126, 127, 128, 129, 116, 117, 118, 130, 131, 132] (by decide +kernel) (by decide +kernel)
set_option maxRecDepth 20000 in
theorem gX6_wholeView_X6_know : GoodIn wsX6_wholeView (wsV RX6 129 RX6 yX6_know wsX6_know) := goodIn_app (goodIn_of _ (by decide +kernel)) ggX6_wholeView_X6_know
theorem dX6_wholeView_0 : decode cX6_wholeView 0 = .ok (.aload_n 0, 1) := by decide +kernel
theorem dX6_wholeView_1 : decode cX6_wholeView 1 = .ok (.invokevirtual 129, 3) := by decide +kernel
theorem dX6_wholeView_4 : decode cX6_wholeView 4 = .ok (.iload_n 1, 1) := by decide +kernel
theorem dX6_wholeView_5 : decode cX6_wholeView 5 = .ok (.aload_n 0, 1) := by decide +kernel
theorem dX6_wholeView_6 : decode cX6_wholeView 6 = .ok (.getfield 108, 3) := by decide +kernel
theorem dX6_wholeView_9 : decode cX6_wholeView 9 = .ok (.if_icmp .lt 6, 3) := by decide +kernel
theorem dX6_wholeView_12 : decode cX6_wholeView 12 = .ok (.bipush (-9), 2) := by decide +kernel
theorem dX6_wholeView_14 : decode cX6_wholeView 14 = .ok (.ireturn, 1) := by decide +kernel
theorem dX6_wholeView_15 : decode cX6_wholeView 15 = .ok (.iconst 0, 1) := by decide +kernel
theorem dX6_wholeView_16 : decode cX6_wholeView 16 = .ok (.istore_n 2, 1) := by decide +kernel
theorem dX6_wholeView_17 : decode cX6_wholeView 17 = .ok (.iconst 0, 1) := by decide +kernel
theorem dX6_wholeView_18 : decode cX6_wholeView 18 = .ok (.istore_n 3, 1) := by decide +kernel
theorem dX6_wholeView_19 : decode cX6_wholeView 19 = .ok (.iload_n 3, 1) := by decide +kernel
theorem dX6_wholeView_20 : decode cX6_wholeView 20 = .ok (.sipush 4096, 3) := by decide +kernel
theorem dX6_wholeView_23 : decode cX6_wholeView 23 = .ok (.if_icmp .ge 35, 3) := by decide +kernel
theorem dX6_wholeView_26 : decode cX6_wholeView 26 = .ok (.aload_n 0, 1) := by decide +kernel
theorem dX6_wholeView_27 : decode cX6_wholeView 27 = .ok (.getfield 18, 3) := by decide +kernel
theorem dX6_wholeView_30 : decode cX6_wholeView 30 = .ok (.iload_n 3, 1) := by decide +kernel
theorem dX6_wholeView_31 : decode cX6_wholeView 31 = .ok (.iaload, 1) := by decide +kernel
theorem dX6_wholeView_32 : decode cX6_wholeView 32 = .ok (.aload_n 0, 1) := by decide +kernel
theorem dX6_wholeView_33 : decode cX6_wholeView 33 = .ok (.getfield 33, 3) := by decide +kernel
theorem dX6_wholeView_36 : decode cX6_wholeView 36 = .ok (.getfield 53, 3) := by decide +kernel
theorem dX6_wholeView_39 : decode cX6_wholeView 39 = .ok (.if_icmp .ne 13, 3) := by decide +kernel
theorem dX6_wholeView_42 : decode cX6_wholeView 42 = .ok (.iload_n 2, 1) := by decide +kernel
theorem dX6_wholeView_43 : decode cX6_wholeView 43 = .ok (.iload_n 1, 1) := by decide +kernel
theorem dX6_wholeView_44 : decode cX6_wholeView 44 = .ok (.if_icmp .ne 5, 3) := by decide +kernel
theorem dX6_wholeView_47 : decode cX6_wholeView 47 = .ok (.iload_n 3, 1) := by decide +kernel
theorem dX6_wholeView_48 : decode cX6_wholeView 48 = .ok (.ireturn, 1) := by decide +kernel
theorem dX6_wholeView_49 : decode cX6_wholeView 49 = .ok (.iinc 2 1, 3) := by decide +kernel
theorem dX6_wholeView_52 : decode cX6_wholeView 52 = .ok (.iinc 3 1, 3) := by decide +kernel
theorem dX6_wholeView_55 : decode cX6_wholeView 55 = .ok (.goto (-36), 3) := by decide +kernel
theorem dX6_wholeView_58 : decode cX6_wholeView 58 = .ok (.bipush (-9), 2) := by decide +kernel
theorem dX6_wholeView_60 : decode cX6_wholeView 60 = .ok (.ireturn, 1) := by decide +kernel
set_option maxRecDepth 20000 in
theorem ggX6_bestPlaces_X6_know : GoodIn wsX6_bestPlaces wsX6_know := goodIn_r _ [7, 8, 9, 10, 11, 1, 2, 12, 13, 14, 15, 16, 17, 18, 19, 20, 6, 21, 22, 23, 24, 25, 26, 27, 28, 29, 30, 31, 32, 33, 34, 35, 36, 37, 38, 39, 40, 41, 42, 43, 44, 45, 46, 47, 48, 49, 50, 51, 52, 53, 54, 55, 56, 57, 58, 59, 60, 61, 62, 63, 64, 65, 66, 67, 68, 69, 70, 71, 72, 73, 74, 75, 76, 77, 78, 79, 80, 81, 82, 83, 84, 85, 86, 87, 88, 89, 90, 91, 92, 93, 94, 95, 96, 97, 98, 99, 100, 101, 102, 103, 104, 105, 110, 111, 112, 113, 114, 115, 116, 117, 118, 119, 120, 121, 122, 123, 124, 125, 126, 127, 128, 129, 130, 131, 132, 133, 134, 135, 136] (by decide +kernel) (by decide +kernel)
set_option maxRecDepth 20000 in
theorem gX6_bestPlaces_X6_know : GoodIn wsX6_bestPlaces (wsV RX6 129 RX6 yX6_know wsX6_know) := goodIn_app (goodIn_of _ (by decide +kernel)) ggX6_bestPlaces_X6_know
set_option maxRecDepth 20000 in
theorem ggX6_bestPlaces_X6_isAsGoodAsBest : GoodIn wsX6_bestPlaces wsX6_isAsGoodAsBest := goodIn_r _ [109, 105, 11, 110, 111, 112, 113, 114, 115, 116, 117, 118, 119] (by decide +kernel) (by decide +kernel)
set_option maxRecDepth 20000 in
theorem gX6_bestPlaces_X6_isAsGoodAsBest : GoodIn wsX6_bestPlaces (wsV RX6 132 RX6 yX6_isAsGoodAsBest wsX6_isAsGoodAsBest) := goodIn_app (goodIn_of _ (by decide +kernel)) ggX6_bestPlaces_X6_isAsGoodAsBest
theorem dX6_bestPlaces_0 : decode cX6_bestPlaces 0 = .ok (.aload_n 0, 1) := by decide +kernel
theorem dX6_bestPlaces_1 : decode cX6_bestPlaces 1 = .ok (.invokevirtual 129, 3) := by decide +kernel
theorem dX6_bestPlaces_4 : decode cX6_bestPlaces 4 = .ok (.iconst 0, 1) := by decide +kernel
theorem dX6_bestPlaces_5 : decode cX6_bestPlaces 5 = .ok (.istore_n 1, 1) := by decide +kernel
theorem dX6_bestPlaces_6 : decode cX6_bestPlaces 6 = .ok (.iconst 0, 1) := by decide +kernel
theorem dX6_bestPlaces_7 : decode cX6_bestPlaces 7 = .ok (.istore_n 2, 1) := by decide +kernel
theorem dX6_bestPlaces_8 : decode cX6_bestPlaces 8 = .ok (.iload_n 2, 1) := by decide +kernel
theorem dX6_bestPlaces_9 : decode cX6_bestPlaces 9 = .ok (.bipush 64, 2) := by decide +kernel
theorem dX6_bestPlaces_11 : decode cX6_bestPlaces 11 = .ok (.if_icmp .ge 32, 3) := by decide +kernel
theorem dX6_bestPlaces_14 : decode cX6_bestPlaces 14 = .ok (.aload_n 0, 1) := by decide +kernel
theorem dX6_bestPlaces_15 : decode cX6_bestPlaces 15 = .ok (.getfield 29, 3) := by decide +kernel
theorem dX6_bestPlaces_18 : decode cX6_bestPlaces 18 = .ok (.getfield 117, 3) := by decide +kernel
theorem dX6_bestPlaces_21 : decode cX6_bestPlaces 21 = .ok (.iload_n 2, 1) := by decide +kernel
theorem dX6_bestPlaces_22 : decode cX6_bestPlaces 22 = .ok (.baload, 1) := by decide +kernel
theorem dX6_bestPlaces_23 : decode cX6_bestPlaces 23 = .ok (.ifCond .ne 14, 3) := by decide +kernel
theorem dX6_bestPlaces_26 : decode cX6_bestPlaces 26 = .ok (.aload_n 0, 1) := by decide +kernel
theorem dX6_bestPlaces_27 : decode cX6_bestPlaces 27 = .ok (.iload_n 2, 1) := by decide +kernel
theorem dX6_bestPlaces_28 : decode cX6_bestPlaces 28 = .ok (.invokevirtual 132, 3) := by decide +kernel
theorem dX6_bestPlaces_31 : decode cX6_bestPlaces 31 = .ok (.ifCond .eq 6, 3) := by decide +kernel
theorem dX6_bestPlaces_34 : decode cX6_bestPlaces 34 = .ok (.iinc 1 1, 3) := by decide +kernel
theorem dX6_bestPlaces_37 : decode cX6_bestPlaces 37 = .ok (.iinc 2 1, 3) := by decide +kernel
theorem dX6_bestPlaces_40 : decode cX6_bestPlaces 40 = .ok (.goto (-32), 3) := by decide +kernel
theorem dX6_bestPlaces_43 : decode cX6_bestPlaces 43 = .ok (.iload_n 1, 1) := by decide +kernel
theorem dX6_bestPlaces_44 : decode cX6_bestPlaces 44 = .ok (.ireturn, 1) := by decide +kernel
theorem dX6_isAsGoodAsBest_0 : decode cX6_isAsGoodAsBest 0 = .ok (.iconst 0, 1) := by decide +kernel
theorem dX6_isAsGoodAsBest_1 : decode cX6_isAsGoodAsBest 1 = .ok (.istore_n 2, 1) := by decide +kernel
theorem dX6_isAsGoodAsBest_2 : decode cX6_isAsGoodAsBest 2 = .ok (.iload_n 2, 1) := by decide +kernel
theorem dX6_isAsGoodAsBest_3 : decode cX6_isAsGoodAsBest 3 = .ok (.bipush 64, 2) := by decide +kernel
theorem dX6_isAsGoodAsBest_5 : decode cX6_isAsGoodAsBest 5 = .ok (.if_icmp .ge 29, 3) := by decide +kernel
theorem dX6_isAsGoodAsBest_8 : decode cX6_isAsGoodAsBest 8 = .ok (.aload_n 0, 1) := by decide +kernel
theorem dX6_isAsGoodAsBest_9 : decode cX6_isAsGoodAsBest 9 = .ok (.getfield 18, 3) := by decide +kernel
theorem dX6_isAsGoodAsBest_12 : decode cX6_isAsGoodAsBest 12 = .ok (.iload_n 1, 1) := by decide +kernel
theorem dX6_isAsGoodAsBest_13 : decode cX6_isAsGoodAsBest 13 = .ok (.bipush 64, 2) := by decide +kernel
theorem dX6_isAsGoodAsBest_15 : decode cX6_isAsGoodAsBest 15 = .ok (.imul, 1) := by decide +kernel
theorem dX6_isAsGoodAsBest_16 : decode cX6_isAsGoodAsBest 16 = .ok (.iload_n 2, 1) := by decide +kernel
theorem dX6_isAsGoodAsBest_17 : decode cX6_isAsGoodAsBest 17 = .ok (.iadd, 1) := by decide +kernel
theorem dX6_isAsGoodAsBest_18 : decode cX6_isAsGoodAsBest 18 = .ok (.iaload, 1) := by decide +kernel
theorem dX6_isAsGoodAsBest_19 : decode cX6_isAsGoodAsBest 19 = .ok (.aload_n 0, 1) := by decide +kernel
theorem dX6_isAsGoodAsBest_20 : decode cX6_isAsGoodAsBest 20 = .ok (.getfield 114, 3) := by decide +kernel
theorem dX6_isAsGoodAsBest_23 : decode cX6_isAsGoodAsBest 23 = .ok (.if_icmp .ne 5, 3) := by decide +kernel
theorem dX6_isAsGoodAsBest_26 : decode cX6_isAsGoodAsBest 26 = .ok (.iconst 1, 1) := by decide +kernel
theorem dX6_isAsGoodAsBest_27 : decode cX6_isAsGoodAsBest 27 = .ok (.ireturn, 1) := by decide +kernel
theorem dX6_isAsGoodAsBest_28 : decode cX6_isAsGoodAsBest 28 = .ok (.iinc 2 1, 3) := by decide +kernel
theorem dX6_isAsGoodAsBest_31 : decode cX6_isAsGoodAsBest 31 = .ok (.goto (-29), 3) := by decide +kernel
theorem dX6_isAsGoodAsBest_34 : decode cX6_isAsGoodAsBest 34 = .ok (.iconst 0, 1) := by decide +kernel
theorem dX6_isAsGoodAsBest_35 : decode cX6_isAsGoodAsBest 35 = .ok (.ireturn, 1) := by decide +kernel
set_option maxRecDepth 20000 in
theorem ggX6_oddNotch_X6_know : GoodIn wsX6_oddNotch wsX6_know := goodIn_r _ [8, 9, 10, 11, 12, 13, 14, 15, 16, 17, 18, 19, 20, 21, 22, 23, 7, 24, 25, 26, 1, 2, 27, 28, 29, 30, 31, 32, 33, 34, 35, 36, 37, 38, 39, 40, 41, 42, 43, 44, 45, 46, 47, 48, 49, 50, 51, 52, 53, 54, 55, 56, 57, 58, 59, 60, 61, 62, 63, 64, 65, 66, 67, 68, 69, 70, 71, 72, 73, 74, 75, 76, 77, 78, 79, 80, 81, 82, 83, 84, 85, 86, 87, 88, 89, 90, 91, 92, 93, 94, 95, 96, 97, 98, 99, 100, 101, 102, 103, 104, 105, 106, 115, 116, 117, 118, 119, 120, 121, 122, 123, 124, 128, 129, 130, 131, 132, 133, 134, 135, 136, 137, 138, 125, 126, 127, 139, 140, 141] (by decide +kernel) (by decide +kernel)
set_option maxRecDepth 20000 in
theorem gX6_oddNotch_X6_know : GoodIn wsX6_oddNotch (wsV RX6 129 RX6 yX6_know wsX6_know) := goodIn_app (goodIn_of _ (by decide +kernel)) ggX6_oddNotch_X6_know
set_option maxRecDepth 20000 in
theorem ggX6_oddNotch_X6_countLacking : GoodIn wsX6_oddNotch wsX6_countLacking := goodIn_r _ [110, 1, 2, 3, 13, 14, 106, 15, 16, 17, 18, 19, 20, 21, 22, 23, 7, 24, 25, 26, 27, 28, 29, 30, 31, 32, 33, 34, 35, 36, 37, 38, 39, 40, 41, 42, 43, 44, 45, 46, 47, 48, 49, 50, 51, 52, 53, 54, 55, 56, 57, 58, 59, 60, 61, 62, 63, 64, 65, 66, 67, 68, 69, 70, 71, 72, 111, 112, 113, 114, 80, 81, 82, 83, 84, 85, 86, 87, 88, 89, 73, 74, 75, 90, 91, 92, 93, 94, 95, 96, 97, 98, 99, 100, 101, 115, 116, 117, 118, 119, 120, 121, 122, 123, 124, 125, 126, 127, 128, 129, 130, 131, 132, 133, 134, 135, 136, 137, 138, 139, 140, 141] (by decide +kernel) (by decide +kernel)
set_option maxRecDepth 20000 in
theorem gX6_oddNotch_X6_countLacking : GoodIn wsX6_oddNotch (wsV RX6 136 RX6 yX6_countLacking wsX6_countLacking) := goodIn_app (goodIn_of _ (by decide +kernel)) ggX6_oddNotch_X6_countLacking
theorem dX6_oddNotch_0 : decode cX6_oddNotch 0 = .ok (.aload_n 0, 1) := by decide +kernel
theorem dX6_oddNotch_1 : decode cX6_oddNotch 1 = .ok (.invokevirtual 129, 3) := by decide +kernel
theorem dX6_oddNotch_4 : decode cX6_oddNotch 4 = .ok (.aload_n 0, 1) := by decide +kernel
theorem dX6_oddNotch_5 : decode cX6_oddNotch 5 = .ok (.invokevirtual 136, 3) := by decide +kernel
theorem dX6_oddNotch_8 : decode cX6_oddNotch 8 = .ok (.bipush (-9), 2) := by decide +kernel
theorem dX6_oddNotch_10 : decode cX6_oddNotch 10 = .ok (.istore_n 1, 1) := by decide +kernel
theorem dX6_oddNotch_11 : decode cX6_oddNotch 11 = .ok (.iconst 0, 1) := by decide +kernel
theorem dX6_oddNotch_12 : decode cX6_oddNotch 12 = .ok (.istore_n 2, 1) := by decide +kernel
theorem dX6_oddNotch_13 : decode cX6_oddNotch 13 = .ok (.iload_n 2, 1) := by decide +kernel
theorem dX6_oddNotch_14 : decode cX6_oddNotch 14 = .ok (.aload_n 0, 1) := by decide +kernel
theorem dX6_oddNotch_15 : decode cX6_oddNotch 15 = .ok (.getfield 33, 3) := by decide +kernel
theorem dX6_oddNotch_18 : decode cX6_oddNotch 18 = .ok (.getfield 53, 3) := by decide +kernel
theorem dX6_oddNotch_21 : decode cX6_oddNotch 21 = .ok (.if_icmp .ge 32, 3) := by decide +kernel
theorem dX6_oddNotch_24 : decode cX6_oddNotch 24 = .ok (.iload_n 1, 1) := by decide +kernel
theorem dX6_oddNotch_25 : decode cX6_oddNotch 25 = .ok (.bipush (-9), 2) := by decide +kernel
theorem dX6_oddNotch_27 : decode cX6_oddNotch 27 = .ok (.if_icmp .eq 18, 3) := by decide +kernel
theorem dX6_oddNotch_30 : decode cX6_oddNotch 30 = .ok (.aload_n 0, 1) := by decide +kernel
theorem dX6_oddNotch_31 : decode cX6_oddNotch 31 = .ok (.getfield 26, 3) := by decide +kernel
theorem dX6_oddNotch_34 : decode cX6_oddNotch 34 = .ok (.iload_n 2, 1) := by decide +kernel
theorem dX6_oddNotch_35 : decode cX6_oddNotch 35 = .ok (.iaload, 1) := by decide +kernel
theorem dX6_oddNotch_36 : decode cX6_oddNotch 36 = .ok (.aload_n 0, 1) := by decide +kernel
theorem dX6_oddNotch_37 : decode cX6_oddNotch 37 = .ok (.getfield 26, 3) := by decide +kernel
theorem dX6_oddNotch_40 : decode cX6_oddNotch 40 = .ok (.iload_n 1, 1) := by decide +kernel
theorem dX6_oddNotch_41 : decode cX6_oddNotch 41 = .ok (.iaload, 1) := by decide +kernel
theorem dX6_oddNotch_42 : decode cX6_oddNotch 42 = .ok (.if_icmp .le 5, 3) := by decide +kernel
theorem dX6_oddNotch_45 : decode cX6_oddNotch 45 = .ok (.iload_n 2, 1) := by decide +kernel
theorem dX6_oddNotch_46 : decode cX6_oddNotch 46 = .ok (.istore_n 1, 1) := by decide +kernel
theorem dX6_oddNotch_47 : decode cX6_oddNotch 47 = .ok (.iinc 2 1, 3) := by decide +kernel
theorem dX6_oddNotch_50 : decode cX6_oddNotch 50 = .ok (.goto (-37), 3) := by decide +kernel
theorem dX6_oddNotch_53 : decode cX6_oddNotch 53 = .ok (.iload_n 1, 1) := by decide +kernel
theorem dX6_oddNotch_54 : decode cX6_oddNotch 54 = .ok (.ireturn, 1) := by decide +kernel
set_option maxRecDepth 20000 in
theorem ggX6_countLacking_X1_allPeaks : GoodIn wsX6_countLacking wsX1_allPeaks := goodIn_r _ [11, 12, 108, 109, 110, 111, 112, 113, 114, 115, 116, 117, 118] (by decide +kernel) (by decide +kernel)
set_option maxRecDepth 20000 in
theorem gX6_countLacking_X1_allPeaks : GoodIn wsX6_countLacking (wsV RX6 121 RX1 yX1_allPeaks wsX1_allPeaks) := goodIn_app (goodIn_of _ (by decide +kernel)) ggX6_countLacking_X1_allPeaks
set_option maxRecDepth 20000 in
theorem ggX6_countLacking_X6_standAt : GoodIn wsX6_countLacking wsX6_standAt := goodIn_r _ [17, 4, 18, 19, 1, 2, 20, 21, 22, 23, 24, 25, 26, 27, 28, 29, 30, 10, 31, 32, 33, 34, 35, 36, 37, 38, 39, 40, 41, 42, 43, 44, 45, 46, 47, 48, 49, 50, 51, 52, 53, 54, 55, 56, 57, 58, 59, 60, 61, 16, 62, 63, 64, 65, 95, 96, 97, 98, 99, 100, 101, 102, 103, 104, 108, 109, 110, 111, 112, 113, 114, 115, 116, 117, 118, 105, 106, 107] (by decide +kernel) (by decide +kernel)
set_option maxRecDepth 20000 in
theorem gX6_countLacking_X6_standAt : GoodIn wsX6_countLacking (wsV RX6 84 RX6 yX6_standAt wsX6_standAt) := goodIn_app (goodIn_of _ (by decide +kernel)) ggX6_countLacking_X6_standAt
set_option maxRecDepth 20000 in
theorem ggX6_countLacking_X6_countLackingTo : GoodIn wsX6_countLacking wsX6_countLackingTo := goodIn_r _ [69, 1, 2, 70, 3, 71, 72, 73, 16, 74, 75, 76, 77, 78, 79, 4, 19, 27, 80, 81, 82, 83, 84, 85, 86, 87, 88, 89, 90, 91, 92, 93, 94, 95, 96, 97, 98, 99, 100, 101, 102, 103, 104, 105, 106, 107, 119, 120, 121, 108, 109, 110, 111, 112, 113, 114, 115, 116, 117, 118] (by decide +kernel) (by decide +kernel)
set_option maxRecDepth 20000 in
theorem gX6_countLacking_X6_countLackingTo : GoodIn wsX6_countLacking (wsV RX6 139 RX6 yX6_countLackingTo wsX6_countLackingTo) := goodIn_app (goodIn_of _ (by decide +kernel)) ggX6_countLacking_X6_countLackingTo
theorem dX6_countLacking_0 : decode cX6_countLacking 0 = .ok (.iconst 0, 1) := by decide +kernel
theorem dX6_countLacking_1 : decode cX6_countLacking 1 = .ok (.istore_n 1, 1) := by decide +kernel
theorem dX6_countLacking_2 : decode cX6_countLacking 2 = .ok (.iload_n 1, 1) := by decide +kernel
theorem dX6_countLacking_3 : decode cX6_countLacking 3 = .ok (.aload_n 0, 1) := by decide +kernel
theorem dX6_countLacking_4 : decode cX6_countLacking 4 = .ok (.getfield 33, 3) := by decide +kernel
theorem dX6_countLacking_7 : decode cX6_countLacking 7 = .ok (.getfield 53, 3) := by decide +kernel
theorem dX6_countLacking_10 : decode cX6_countLacking 10 = .ok (.if_icmp .ge 16, 3) := by decide +kernel
theorem dX6_countLacking_13 : decode cX6_countLacking 13 = .ok (.aload_n 0, 1) := by decide +kernel
theorem dX6_countLacking_14 : decode cX6_countLacking 14 = .ok (.getfield 26, 3) := by decide +kernel
theorem dX6_countLacking_17 : decode cX6_countLacking 17 = .ok (.iload_n 1, 1) := by decide +kernel
theorem dX6_countLacking_18 : decode cX6_countLacking 18 = .ok (.iconst 0, 1) := by decide +kernel
theorem dX6_countLacking_19 : decode cX6_countLacking 19 = .ok (.iastore, 1) := by decide +kernel
theorem dX6_countLacking_20 : decode cX6_countLacking 20 = .ok (.iinc 1 1, 3) := by decide +kernel
theorem dX6_countLacking_23 : decode cX6_countLacking 23 = .ok (.goto (-21), 3) := by decide +kernel
theorem dX6_countLacking_26 : decode cX6_countLacking 26 = .ok (.iconst 0, 1) := by decide +kernel
theorem dX6_countLacking_27 : decode cX6_countLacking 27 = .ok (.istore_n 1, 1) := by decide +kernel
theorem dX6_countLacking_28 : decode cX6_countLacking 28 = .ok (.iload_n 1, 1) := by decide +kernel
theorem dX6_countLacking_29 : decode cX6_countLacking 29 = .ok (.bipush 64, 2) := by decide +kernel
theorem dX6_countLacking_31 : decode cX6_countLacking 31 = .ok (.if_icmp .ge 84, 3) := by decide +kernel
theorem dX6_countLacking_34 : decode cX6_countLacking 34 = .ok (.iconst 0, 1) := by decide +kernel
theorem dX6_countLacking_35 : decode cX6_countLacking 35 = .ok (.istore_n 2, 1) := by decide +kernel
theorem dX6_countLacking_36 : decode cX6_countLacking 36 = .ok (.iconst 0, 1) := by decide +kernel
theorem dX6_countLacking_37 : decode cX6_countLacking 37 = .ok (.istore_n 3, 1) := by decide +kernel
theorem dX6_countLacking_38 : decode cX6_countLacking 38 = .ok (.iload_n 3, 1) := by decide +kernel
theorem dX6_countLacking_39 : decode cX6_countLacking 39 = .ok (.bipush 64, 2) := by decide +kernel
theorem dX6_countLacking_41 : decode cX6_countLacking 41 = .ok (.if_icmp .ge 68, 3) := by decide +kernel
theorem dX6_countLacking_44 : decode cX6_countLacking 44 = .ok (.aload_n 0, 1) := by decide +kernel
theorem dX6_countLacking_45 : decode cX6_countLacking 45 = .ok (.getfield 29, 3) := by decide +kernel
theorem dX6_countLacking_48 : decode cX6_countLacking 48 = .ok (.getfield 117, 3) := by decide +kernel
theorem dX6_countLacking_51 : decode cX6_countLacking 51 = .ok (.iload_n 1, 1) := by decide +kernel
theorem dX6_countLacking_52 : decode cX6_countLacking 52 = .ok (.baload, 1) := by decide +kernel
theorem dX6_countLacking_53 : decode cX6_countLacking 53 = .ok (.ifCond .ne 56, 3) := by decide +kernel
theorem dX6_countLacking_56 : decode cX6_countLacking 56 = .ok (.aload_n 0, 1) := by decide +kernel
theorem dX6_countLacking_57 : decode cX6_countLacking 57 = .ok (.getfield 18, 3) := by decide +kernel
theorem dX6_countLacking_60 : decode cX6_countLacking 60 = .ok (.iload_n 1, 1) := by decide +kernel
theorem dX6_countLacking_61 : decode cX6_countLacking 61 = .ok (.bipush 64, 2) := by decide +kernel
theorem dX6_countLacking_63 : decode cX6_countLacking 63 = .ok (.imul, 1) := by decide +kernel
theorem dX6_countLacking_64 : decode cX6_countLacking 64 = .ok (.iload_n 3, 1) := by decide +kernel
theorem dX6_countLacking_65 : decode cX6_countLacking 65 = .ok (.iadd, 1) := by decide +kernel
theorem dX6_countLacking_66 : decode cX6_countLacking 66 = .ok (.iaload, 1) := by decide +kernel
theorem dX6_countLacking_67 : decode cX6_countLacking 67 = .ok (.aload_n 0, 1) := by decide +kernel
theorem dX6_countLacking_68 : decode cX6_countLacking 68 = .ok (.getfield 33, 3) := by decide +kernel
theorem dX6_countLacking_71 : decode cX6_countLacking 71 = .ok (.getfield 53, 3) := by decide +kernel
theorem dX6_countLacking_74 : decode cX6_countLacking 74 = .ok (.iconst 1, 1) := by decide +kernel
theorem dX6_countLacking_75 : decode cX6_countLacking 75 = .ok (.isub, 1) := by decide +kernel
theorem dX6_countLacking_76 : decode cX6_countLacking 76 = .ok (.if_icmp .ne 27, 3) := by decide +kernel
theorem dX6_countLacking_79 : decode cX6_countLacking 79 = .ok (.iload_n 2, 1) := by decide +kernel
theorem dX6_countLacking_80 : decode cX6_countLacking 80 = .ok (.ifCond .ne 18, 3) := by decide +kernel
theorem dX6_countLacking_83 : decode cX6_countLacking 83 = .ok (.aload_n 0, 1) := by decide +kernel
theorem dX6_countLacking_84 : decode cX6_countLacking 84 = .ok (.iload_n 1, 1) := by decide +kernel
theorem dX6_countLacking_85 : decode cX6_countLacking 85 = .ok (.aload_n 0, 1) := by decide +kernel
theorem dX6_countLacking_86 : decode cX6_countLacking 86 = .ok (.getfield 29, 3) := by decide +kernel
theorem dX6_countLacking_89 : decode cX6_countLacking 89 = .ok (.invokevirtual 121, 3) := by decide +kernel
theorem dX6_countLacking_92 : decode cX6_countLacking 92 = .ok (.invokevirtual 84, 3) := by decide +kernel
theorem dX6_countLacking_95 : decode cX6_countLacking 95 = .ok (.pop2, 1) := by decide +kernel
theorem dX6_countLacking_96 : decode cX6_countLacking 96 = .ok (.iconst 1, 1) := by decide +kernel
theorem dX6_countLacking_97 : decode cX6_countLacking 97 = .ok (.istore_n 2, 1) := by decide +kernel
theorem dX6_countLacking_98 : decode cX6_countLacking 98 = .ok (.aload_n 0, 1) := by decide +kernel
theorem dX6_countLacking_99 : decode cX6_countLacking 99 = .ok (.iload_n 3, 1) := by decide +kernel
theorem dX6_countLacking_100 : decode cX6_countLacking 100 = .ok (.invokevirtual 139, 3) := by decide +kernel
theorem dX6_countLacking_103 : decode cX6_countLacking 103 = .ok (.iinc 3 1, 3) := by decide +kernel
theorem dX6_countLacking_106 : decode cX6_countLacking 106 = .ok (.goto (-68), 3) := by decide +kernel
theorem dX6_countLacking_109 : decode cX6_countLacking 109 = .ok (.iinc 1 1, 3) := by decide +kernel
theorem dX6_countLacking_112 : decode cX6_countLacking 112 = .ok (.goto (-84), 3) := by decide +kernel
theorem dX6_countLacking_115 : decode cX6_countLacking 115 = .ok (.return_, 1) := by decide +kernel
set_option maxRecDepth 20000 in
theorem ggX6_countLackingTo_X6_lookTo : GoodIn wsX6_countLackingTo wsX6_lookTo := goodIn_r _ [9, 1, 2, 3, 10, 11, 12, 13, 8, 14, 15, 16, 17, 18, 19, 20, 33, 34, 35, 36, 37, 38, 39, 40, 41, 42, 43, 44, 45, 46, 47, 48, 49, 50, 51, 52, 53, 54, 55, 56, 57, 58, 59] (by decide +kernel) (by decide +kernel)
set_option maxRecDepth 20000 in
theorem gX6_countLackingTo_X6_lookTo : GoodIn wsX6_countLackingTo (wsV RX6 91 RX6 yX6_lookTo wsX6_lookTo) := goodIn_app (goodIn_of _ (by decide +kernel)) ggX6_countLackingTo_X6_lookTo
set_option maxRecDepth 20000 in
theorem ggX6_countLackingTo_X2_most : GoodIn wsX6_countLackingTo wsX2_most := goodIn_r _ [25, 26, 27, 28, 29, 30, 31, 24, 32, 46, 47, 48] (by decide +kernel) (by decide +kernel)
set_option maxRecDepth 20000 in
theorem gX6_countLackingTo_X2_most : GoodIn wsX6_countLackingTo (wsV RX6 95 RX2 yX2_most wsX2_most) := goodIn_app (goodIn_of _ (by decide +kernel)) ggX6_countLackingTo_X2_most
theorem dX6_countLackingTo_0 : decode cX6_countLackingTo 0 = .ok (.aload_n 0, 1) := by decide +kernel
theorem dX6_countLackingTo_1 : decode cX6_countLackingTo 1 = .ok (.iload_n 1, 1) := by decide +kernel
theorem dX6_countLackingTo_2 : decode cX6_countLackingTo 2 = .ok (.invokevirtual 91, 3) := by decide +kernel
theorem dX6_countLackingTo_5 : decode cX6_countLackingTo 5 = .ok (.iconst 0, 1) := by decide +kernel
theorem dX6_countLackingTo_6 : decode cX6_countLackingTo 6 = .ok (.istore_n 2, 1) := by decide +kernel
theorem dX6_countLackingTo_7 : decode cX6_countLackingTo 7 = .ok (.iload_n 2, 1) := by decide +kernel
theorem dX6_countLackingTo_8 : decode cX6_countLackingTo 8 = .ok (.aload_n 0, 1) := by decide +kernel
theorem dX6_countLackingTo_9 : decode cX6_countLackingTo 9 = .ok (.getfield 33, 3) := by decide +kernel
theorem dX6_countLackingTo_12 : decode cX6_countLackingTo 12 = .ok (.getfield 53, 3) := by decide +kernel
theorem dX6_countLackingTo_15 : decode cX6_countLackingTo 15 = .ok (.if_icmp .ge 46, 3) := by decide +kernel
theorem dX6_countLackingTo_18 : decode cX6_countLackingTo 18 = .ok (.aload_n 0, 1) := by decide +kernel
theorem dX6_countLackingTo_19 : decode cX6_countLackingTo 19 = .ok (.getfield 12, 3) := by decide +kernel
theorem dX6_countLackingTo_22 : decode cX6_countLackingTo 22 = .ok (.aload_n 0, 1) := by decide +kernel
theorem dX6_countLackingTo_23 : decode cX6_countLackingTo 23 = .ok (.getfield 33, 3) := by decide +kernel
theorem dX6_countLackingTo_26 : decode cX6_countLackingTo 26 = .ok (.getfield 53, 3) := by decide +kernel
theorem dX6_countLackingTo_29 : decode cX6_countLackingTo 29 = .ok (.iload_n 2, 1) := by decide +kernel
theorem dX6_countLackingTo_30 : decode cX6_countLackingTo 30 = .ok (.invokevirtual 95, 3) := by decide +kernel
theorem dX6_countLackingTo_33 : decode cX6_countLackingTo 33 = .ok (.aload_n 0, 1) := by decide +kernel
theorem dX6_countLackingTo_34 : decode cX6_countLackingTo 34 = .ok (.getfield 33, 3) := by decide +kernel
theorem dX6_countLackingTo_37 : decode cX6_countLackingTo 37 = .ok (.getfield 53, 3) := by decide +kernel
theorem dX6_countLackingTo_40 : decode cX6_countLackingTo 40 = .ok (.iconst 1, 1) := by decide +kernel
theorem dX6_countLackingTo_41 : decode cX6_countLackingTo 41 = .ok (.isub, 1) := by decide +kernel
theorem dX6_countLackingTo_42 : decode cX6_countLackingTo 42 = .ok (.if_icmp .ne 13, 3) := by decide +kernel
theorem dX6_countLackingTo_45 : decode cX6_countLackingTo 45 = .ok (.aload_n 0, 1) := by decide +kernel
theorem dX6_countLackingTo_46 : decode cX6_countLackingTo 46 = .ok (.getfield 26, 3) := by decide +kernel
theorem dX6_countLackingTo_49 : decode cX6_countLackingTo 49 = .ok (.iload_n 2, 1) := by decide +kernel
theorem dX6_countLackingTo_50 : decode cX6_countLackingTo 50 = .ok (.dup2, 1) := by decide +kernel
theorem dX6_countLackingTo_51 : decode cX6_countLackingTo 51 = .ok (.iaload, 1) := by decide +kernel
theorem dX6_countLackingTo_52 : decode cX6_countLackingTo 52 = .ok (.iconst 1, 1) := by decide +kernel
theorem dX6_countLackingTo_53 : decode cX6_countLackingTo 53 = .ok (.iadd, 1) := by decide +kernel
theorem dX6_countLackingTo_54 : decode cX6_countLackingTo 54 = .ok (.iastore, 1) := by decide +kernel
theorem dX6_countLackingTo_55 : decode cX6_countLackingTo 55 = .ok (.iinc 2 1, 3) := by decide +kernel
theorem dX6_countLackingTo_58 : decode cX6_countLackingTo 58 = .ok (.goto (-51), 3) := by decide +kernel
theorem dX6_countLackingTo_61 : decode cX6_countLackingTo 61 = .ok (.return_, 1) := by decide +kernel
set_option maxRecDepth 20000 in
theorem ggX7_init_X5_init : GoodIn wsX7_init wsX5_init := goodIn_r _ [33, 34, 2, 3, 35, 36, 85, 86, 87, 88, 89, 90] (by decide +kernel) (by decide +kernel)
set_option maxRecDepth 20000 in
theorem gX7_init_X5_init_n11 : GoodIn wsX7_init (wsX5_init) := ggX7_init_X5_init
set_option maxRecDepth 20000 in
theorem ggX7_init_X1_init : GoodIn wsX7_init wsX1_init := goodIn_r _ [38, 39, 2, 3, 35, 40, 41, 42, 43, 44, 45, 30, 46, 47, 48, 100, 101, 102, 103, 104, 105, 106, 107, 108, 109, 110] (by decide +kernel) (by decide +kernel)
set_option maxRecDepth 20000 in
theorem gX7_init_X1_init_n18 : GoodIn wsX7_init (wsX1_init) := ggX7_init_X1_init
set_option maxRecDepth 20000 in
theorem ggX7_init_X3_init : GoodIn wsX7_init wsX3_init := goodIn_r _ [50, 51, 2, 3, 35, 52, 53, 111, 112, 113] (by decide +kernel) (by decide +kernel)
set_option maxRecDepth 20000 in
theorem gX7_init_X3_init_n28 : GoodIn wsX7_init (wsX3_init) := ggX7_init_X3_init
set_option maxRecDepth 20000 in
theorem ggX7_init_X4_init : GoodIn wsX7_init wsX4_init := goodIn_r _ [56, 57, 2, 3, 58, 59, 14, 15, 49, 50, 51, 35, 52, 53, 114, 115, 116, 111, 112, 113] (by decide +kernel) (by decide +kernel)
set_option maxRecDepth 20000 in
theorem gX7_init_X4_init : GoodIn wsX7_init (wsX4_init) := ggX7_init_X4_init
set_option maxRecDepth 20000 in
theorem ggX7_init_X6_init : GoodIn wsX7_init wsX6_init := goodIn_r _ [62, 63, 2, 3, 64, 65, 66, 67, 35, 68, 69, 70, 71, 72, 73, 74, 75, 76, 77, 78, 131, 132, 133, 117, 118, 119, 120, 121, 122, 123, 124, 125, 126] (by decide +kernel) (by decide +kernel)
set_option maxRecDepth 20000 in
theorem gX7_init_X6_init : GoodIn wsX7_init (wsX6_init) := ggX7_init_X6_init
set_option maxRecDepth 20000 in
theorem ggX7_init_X0_init : GoodIn wsX7_init wsX0_init := goodIn_r _ [80, 81, 2, 3, 35, 82, 83, 30, 84, 127, 128, 129, 130] (by decide +kernel) (by decide +kernel)
set_option maxRecDepth 20000 in
theorem gX7_init_X0_init_n51 : GoodIn wsX7_init (wsX0_init) := ggX7_init_X0_init
theorem dX7_init_0 : decode cX7_init 0 = .ok (.aload_n 0, 1) := by decide +kernel
theorem dX7_init_1 : decode cX7_init 1 = .ok (.invokespecial 3, 3) := by decide +kernel
theorem dX7_init_4 : decode cX7_init 4 = .ok (.aload_n 0, 1) := by decide +kernel
theorem dX7_init_5 : decode cX7_init 5 = .ok (.new 9, 3) := by decide +kernel
theorem dX7_init_8 : decode cX7_init 8 = .ok (.dup, 1) := by decide +kernel
theorem dX7_init_9 : decode cX7_init 9 = .ok (.invokespecial 11, 3) := by decide +kernel
theorem dX7_init_12 : decode cX7_init 12 = .ok (.putfield 12, 3) := by decide +kernel
theorem dX7_init_15 : decode cX7_init 15 = .ok (.aload_n 0, 1) := by decide +kernel
theorem dX7_init_16 : decode cX7_init 16 = .ok (.new 16, 3) := by decide +kernel
theorem dX7_init_19 : decode cX7_init 19 = .ok (.dup, 1) := by decide +kernel
theorem dX7_init_20 : decode cX7_init 20 = .ok (.invokespecial 18, 3) := by decide +kernel
theorem dX7_init_23 : decode cX7_init 23 = .ok (.putfield 19, 3) := by decide +kernel
theorem dX7_init_26 : decode cX7_init 26 = .ok (.aload_n 0, 1) := by decide +kernel
theorem dX7_init_27 : decode cX7_init 27 = .ok (.new 16, 3) := by decide +kernel
theorem dX7_init_30 : decode cX7_init 30 = .ok (.dup, 1) := by decide +kernel
theorem dX7_init_31 : decode cX7_init 31 = .ok (.invokespecial 18, 3) := by decide +kernel
