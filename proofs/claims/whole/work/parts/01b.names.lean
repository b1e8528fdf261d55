theorem dX0_init_0 : decode cX0_init 0 = .ok (.aload_n 0, 1) := by decide +kernel
theorem dX0_init_1 : decode cX0_init 1 = .ok (.invokespecial 3, 3) := by decide +kernel
theorem dX0_init_4 : decode cX0_init 4 = .ok (.aload_n 0, 1) := by decide +kernel
theorem dX0_init_5 : decode cX0_init 5 = .ok (.bipush 6, 2) := by decide +kernel
theorem dX0_init_7 : decode cX0_init 7 = .ok (.newarray .int, 2) := by decide +kernel
theorem dX0_init_9 : decode cX0_init 9 = .ok (.putfield 9, 3) := by decide +kernel
theorem dX0_init_12 : decode cX0_init 12 = .ok (.aload_n 0, 1) := by decide +kernel
theorem dX0_init_13 : decode cX0_init 13 = .ok (.bipush 6, 2) := by decide +kernel
theorem dX0_init_15 : decode cX0_init 15 = .ok (.newarray .int, 2) := by decide +kernel
theorem dX0_init_17 : decode cX0_init 17 = .ok (.putfield 15, 3) := by decide +kernel
theorem dX0_init_20 : decode cX0_init 20 = .ok (.aload_n 0, 1) := by decide +kernel
theorem dX0_init_21 : decode cX0_init 21 = .ok (.bipush 6, 2) := by decide +kernel
theorem dX0_init_23 : decode cX0_init 23 = .ok (.newarray .boolean, 2) := by decide +kernel
theorem dX0_init_25 : decode cX0_init 25 = .ok (.putfield 18, 3) := by decide +kernel
theorem dX0_init_28 : decode cX0_init 28 = .ok (.return_, 1) := by decide +kernel
theorem dX0_append_0 : decode cX0_append 0 = .ok (.aload_n 0, 1) := by decide +kernel
theorem dX0_append_1 : decode cX0_append 1 = .ok (.getfield 22, 3) := by decide +kernel
theorem dX0_append_4 : decode cX0_append 4 = .ok (.bipush 6, 2) := by decide +kernel
theorem dX0_append_6 : decode cX0_append 6 = .ok (.if_icmp .ge 43, 3) := by decide +kernel
theorem dX0_append_9 : decode cX0_append 9 = .ok (.aload_n 0, 1) := by decide +kernel
theorem dX0_append_10 : decode cX0_append 10 = .ok (.getfield 9, 3) := by decide +kernel
theorem dX0_append_13 : decode cX0_append 13 = .ok (.aload_n 0, 1) := by decide +kernel
theorem dX0_append_14 : decode cX0_append 14 = .ok (.getfield 22, 3) := by decide +kernel
theorem dX0_append_17 : decode cX0_append 17 = .ok (.iload_n 1, 1) := by decide +kernel
theorem dX0_append_18 : decode cX0_append 18 = .ok (.iastore, 1) := by decide +kernel
theorem dX0_append_19 : decode cX0_append 19 = .ok (.aload_n 0, 1) := by decide +kernel
theorem dX0_append_20 : decode cX0_append 20 = .ok (.getfield 15, 3) := by decide +kernel
theorem dX0_append_23 : decode cX0_append 23 = .ok (.aload_n 0, 1) := by decide +kernel
theorem dX0_append_24 : decode cX0_append 24 = .ok (.getfield 22, 3) := by decide +kernel
theorem dX0_append_27 : decode cX0_append 27 = .ok (.iload_n 2, 1) := by decide +kernel
theorem dX0_append_28 : decode cX0_append 28 = .ok (.iastore, 1) := by decide +kernel
theorem dX0_append_29 : decode cX0_append 29 = .ok (.aload_n 0, 1) := by decide +kernel
theorem dX0_append_30 : decode cX0_append 30 = .ok (.getfield 18, 3) := by decide +kernel
theorem dX0_append_33 : decode cX0_append 33 = .ok (.aload_n 0, 1) := by decide +kernel
theorem dX0_append_34 : decode cX0_append 34 = .ok (.getfield 22, 3) := by decide +kernel
theorem dX0_append_37 : decode cX0_append 37 = .ok (.iload_n 3, 1) := by decide +kernel
theorem dX0_append_38 : decode cX0_append 38 = .ok (.bastore, 1) := by decide +kernel
theorem dX0_append_39 : decode cX0_append 39 = .ok (.aload_n 0, 1) := by decide +kernel
theorem dX0_append_40 : decode cX0_append 40 = .ok (.dup, 1) := by decide +kernel
theorem dX0_append_41 : decode cX0_append 41 = .ok (.getfield 22, 3) := by decide +kernel
theorem dX0_append_44 : decode cX0_append 44 = .ok (.iconst 1, 1) := by decide +kernel
theorem dX0_append_45 : decode cX0_append 45 = .ok (.iadd, 1) := by decide +kernel
theorem dX0_append_46 : decode cX0_append 46 = .ok (.putfield 22, 3) := by decide +kernel
theorem dX0_append_49 : decode cX0_append 49 = .ok (.return_, 1) := by decide +kernel
theorem dX1_init_0 : decode cX1_init 0 = .ok (.aload_n 0, 1) := by decide +kernel
theorem dX1_init_1 : decode cX1_init 1 = .ok (.invokespecial 3, 3) := by decide +kernel
theorem dX1_init_4 : decode cX1_init 4 = .ok (.aload_n 0, 1) := by decide +kernel
theorem dX1_init_5 : decode cX1_init 5 = .ok (.bipush 10, 2) := by decide +kernel
theorem dX1_init_7 : decode cX1_init 7 = .ok (.newarray .int, 2) := by decide +kernel
theorem dX1_init_9 : decode cX1_init 9 = .ok (.putfield 9, 3) := by decide +kernel
theorem dX1_init_12 : decode cX1_init 12 = .ok (.aload_n 0, 1) := by decide +kernel
theorem dX1_init_13 : decode cX1_init 13 = .ok (.bipush 10, 2) := by decide +kernel
theorem dX1_init_15 : decode cX1_init 15 = .ok (.newarray .int, 2) := by decide +kernel
theorem dX1_init_17 : decode cX1_init 17 = .ok (.putfield 15, 3) := by decide +kernel
theorem dX1_init_20 : decode cX1_init 20 = .ok (.aload_n 0, 1) := by decide +kernel
theorem dX1_init_21 : decode cX1_init 21 = .ok (.bipush 10, 2) := by decide +kernel
theorem dX1_init_23 : decode cX1_init 23 = .ok (.newarray .int, 2) := by decide +kernel
theorem dX1_init_25 : decode cX1_init 25 = .ok (.putfield 18, 3) := by decide +kernel
theorem dX1_init_28 : decode cX1_init 28 = .ok (.aload_n 0, 1) := by decide +kernel
theorem dX1_init_29 : decode cX1_init 29 = .ok (.bipush 8, 2) := by decide +kernel
theorem dX1_init_31 : decode cX1_init 31 = .ok (.newarray .int, 2) := by decide +kernel
theorem dX1_init_33 : decode cX1_init 33 = .ok (.putfield 21, 3) := by decide +kernel
theorem dX1_init_36 : decode cX1_init 36 = .ok (.aload_n 0, 1) := by decide +kernel
theorem dX1_init_37 : decode cX1_init 37 = .ok (.bipush 8, 2) := by decide +kernel
theorem dX1_init_39 : decode cX1_init 39 = .ok (.newarray .int, 2) := by decide +kernel
theorem dX1_init_41 : decode cX1_init 41 = .ok (.putfield 24, 3) := by decide +kernel
theorem dX1_init_44 : decode cX1_init 44 = .ok (.aload_n 0, 1) := by decide +kernel
theorem dX1_init_45 : decode cX1_init 45 = .ok (.iconst 1, 1) := by decide +kernel
theorem dX1_init_46 : decode cX1_init 46 = .ok (.putfield 27, 3) := by decide +kernel
theorem dX1_init_49 : decode cX1_init 49 = .ok (.aload_n 0, 1) := by decide +kernel
theorem dX1_init_50 : decode cX1_init 50 = .ok (.bipush 64, 2) := by decide +kernel
theorem dX1_init_52 : decode cX1_init 52 = .ok (.newarray .boolean, 2) := by decide +kernel
theorem dX1_init_54 : decode cX1_init 54 = .ok (.putfield 31, 3) := by decide +kernel
theorem dX1_init_57 : decode cX1_init 57 = .ok (.aload_n 0, 1) := by decide +kernel
theorem dX1_init_58 : decode cX1_init 58 = .ok (.bipush 64, 2) := by decide +kernel
theorem dX1_init_60 : decode cX1_init 60 = .ok (.newarray .int, 2) := by decide +kernel
theorem dX1_init_62 : decode cX1_init 62 = .ok (.putfield 35, 3) := by decide +kernel
theorem dX1_init_65 : decode cX1_init 65 = .ok (.aload_n 0, 1) := by decide +kernel
theorem dX1_init_66 : decode cX1_init 66 = .ok (.bipush 10, 2) := by decide +kernel
theorem dX1_init_68 : decode cX1_init 68 = .ok (.newarray .int, 2) := by decide +kernel
theorem dX1_init_70 : decode cX1_init 70 = .ok (.putfield 38, 3) := by decide +kernel
theorem dX1_init_73 : decode cX1_init 73 = .ok (.return_, 1) := by decide +kernel
theorem dX1_empty_0 : decode cX1_empty 0 = .ok (.aload_n 0, 1) := by decide +kernel
theorem dX1_empty_1 : decode cX1_empty 1 = .ok (.iconst 0, 1) := by decide +kernel
theorem dX1_empty_2 : decode cX1_empty 2 = .ok (.putfield 41, 3) := by decide +kernel
theorem dX1_empty_5 : decode cX1_empty 5 = .ok (.aload_n 0, 1) := by decide +kernel
theorem dX1_empty_6 : decode cX1_empty 6 = .ok (.iconst 0, 1) := by decide +kernel
theorem dX1_empty_7 : decode cX1_empty 7 = .ok (.putfield 44, 3) := by decide +kernel
theorem dX1_empty_10 : decode cX1_empty 10 = .ok (.aload_n 0, 1) := by decide +kernel
theorem dX1_empty_11 : decode cX1_empty 11 = .ok (.iconst 1, 1) := by decide +kernel
theorem dX1_empty_12 : decode cX1_empty 12 = .ok (.putfield 27, 3) := by decide +kernel
theorem dX1_empty_15 : decode cX1_empty 15 = .ok (.iconst 0, 1) := by decide +kernel
theorem dX1_empty_16 : decode cX1_empty 16 = .ok (.istore_n 1, 1) := by decide +kernel
theorem dX1_empty_17 : decode cX1_empty 17 = .ok (.iload_n 1, 1) := by decide +kernel
theorem dX1_empty_18 : decode cX1_empty 18 = .ok (.bipush 64, 2) := by decide +kernel
theorem dX1_empty_20 : decode cX1_empty 20 = .ok (.if_icmp .ge 16, 3) := by decide +kernel
theorem dX1_empty_23 : decode cX1_empty 23 = .ok (.aload_n 0, 1) := by decide +kernel
theorem dX1_empty_24 : decode cX1_empty 24 = .ok (.getfield 31, 3) := by decide +kernel
theorem dX1_empty_27 : decode cX1_empty 27 = .ok (.iload_n 1, 1) := by decide +kernel
theorem dX1_empty_28 : decode cX1_empty 28 = .ok (.iconst 0, 1) := by decide +kernel
theorem dX1_empty_29 : decode cX1_empty 29 = .ok (.bastore, 1) := by decide +kernel
theorem dX1_empty_30 : decode cX1_empty 30 = .ok (.iinc 1 1, 3) := by decide +kernel
theorem dX1_empty_33 : decode cX1_empty 33 = .ok (.goto (-16), 3) := by decide +kernel
theorem dX1_empty_36 : decode cX1_empty 36 = .ok (.return_, 1) := by decide +kernel
set_option maxRecDepth 20000 in
theorem ggX1_addPeak_X1_isPlace : GoodIn wsX1_addPeak wsX1_isPlace := goodIn_r _ [10, 5, 11, 12, 13, 14, 15, 16, 17, 18, 19, 20, 21, 22, 23, 24] (by decide +kernel) (by decide +kernel)
set_option maxRecDepth 20000 in
theorem gX1_addPeak_X1_isPlace : GoodIn wsX1_addPeak (wsV RX1 47 RX1 yX1_isPlace wsX1_isPlace) := goodIn_app (goodIn_of _ (by decide +kernel)) ggX1_addPeak_X1_isPlace
set_option maxRecDepth 20000 in
theorem ggX1_addPeak_X7_pointOf : GoodIn wsX1_addPeak wsX7_pointOf := goodIn_r _ [13] (by decide +kernel) (by decide +kernel)
set_option maxRecDepth 20000 in
theorem gX1_addPeak_X7_pointOf_n51 : GoodIn wsX1_addPeak (wsX7_pointOf) := ggX1_addPeak_X7_pointOf
theorem dX1_addPeak_0 : decode cX1_addPeak 0 = .ok (.aload_n 0, 1) := by decide +kernel
theorem dX1_addPeak_1 : decode cX1_addPeak 1 = .ok (.getfield 41, 3) := by decide +kernel
theorem dX1_addPeak_4 : decode cX1_addPeak 4 = .ok (.bipush 10, 2) := by decide +kernel
theorem dX1_addPeak_6 : decode cX1_addPeak 6 = .ok (.if_icmp .ge 63, 3) := by decide +kernel
theorem dX1_addPeak_9 : decode cX1_addPeak 9 = .ok (.aload_n 0, 1) := by decide +kernel
theorem dX1_addPeak_10 : decode cX1_addPeak 10 = .ok (.iload_n 1, 1) := by decide +kernel
theorem dX1_addPeak_11 : decode cX1_addPeak 11 = .ok (.iload_n 2, 1) := by decide +kernel
theorem dX1_addPeak_12 : decode cX1_addPeak 12 = .ok (.invokevirtual 47, 3) := by decide +kernel
theorem dX1_addPeak_15 : decode cX1_addPeak 15 = .ok (.ifCond .eq 54, 3) := by decide +kernel
theorem dX1_addPeak_18 : decode cX1_addPeak 18 = .ok (.aload_n 0, 1) := by decide +kernel
theorem dX1_addPeak_19 : decode cX1_addPeak 19 = .ok (.getfield 9, 3) := by decide +kernel
theorem dX1_addPeak_22 : decode cX1_addPeak 22 = .ok (.aload_n 0, 1) := by decide +kernel
theorem dX1_addPeak_23 : decode cX1_addPeak 23 = .ok (.getfield 41, 3) := by decide +kernel
theorem dX1_addPeak_26 : decode cX1_addPeak 26 = .ok (.iload_n 1, 1) := by decide +kernel
theorem dX1_addPeak_27 : decode cX1_addPeak 27 = .ok (.iastore, 1) := by decide +kernel
theorem dX1_addPeak_28 : decode cX1_addPeak 28 = .ok (.aload_n 0, 1) := by decide +kernel
theorem dX1_addPeak_29 : decode cX1_addPeak 29 = .ok (.getfield 15, 3) := by decide +kernel
theorem dX1_addPeak_32 : decode cX1_addPeak 32 = .ok (.aload_n 0, 1) := by decide +kernel
theorem dX1_addPeak_33 : decode cX1_addPeak 33 = .ok (.getfield 41, 3) := by decide +kernel
theorem dX1_addPeak_36 : decode cX1_addPeak 36 = .ok (.iload_n 2, 1) := by decide +kernel
theorem dX1_addPeak_37 : decode cX1_addPeak 37 = .ok (.iastore, 1) := by decide +kernel
theorem dX1_addPeak_38 : decode cX1_addPeak 38 = .ok (.aload_n 0, 1) := by decide +kernel
theorem dX1_addPeak_39 : decode cX1_addPeak 39 = .ok (.getfield 18, 3) := by decide +kernel
theorem dX1_addPeak_42 : decode cX1_addPeak 42 = .ok (.aload_n 0, 1) := by decide +kernel
theorem dX1_addPeak_43 : decode cX1_addPeak 43 = .ok (.getfield 41, 3) := by decide +kernel
theorem dX1_addPeak_46 : decode cX1_addPeak 46 = .ok (.iload_n 3, 1) := by decide +kernel
theorem dX1_addPeak_47 : decode cX1_addPeak 47 = .ok (.iastore, 1) := by decide +kernel
theorem dX1_addPeak_48 : decode cX1_addPeak 48 = .ok (.aload_n 0, 1) := by decide +kernel
theorem dX1_addPeak_49 : decode cX1_addPeak 49 = .ok (.getfield 31, 3) := by decide +kernel
theorem dX1_addPeak_52 : decode cX1_addPeak 52 = .ok (.iload_n 1, 1) := by decide +kernel
theorem dX1_addPeak_53 : decode cX1_addPeak 53 = .ok (.iload_n 2, 1) := by decide +kernel
theorem dX1_addPeak_54 : decode cX1_addPeak 54 = .ok (.invokestatic 51, 3) := by decide +kernel
theorem dX1_addPeak_57 : decode cX1_addPeak 57 = .ok (.iconst 1, 1) := by decide +kernel
theorem dX1_addPeak_58 : decode cX1_addPeak 58 = .ok (.bastore, 1) := by decide +kernel
theorem dX1_addPeak_59 : decode cX1_addPeak 59 = .ok (.aload_n 0, 1) := by decide +kernel
theorem dX1_addPeak_60 : decode cX1_addPeak 60 = .ok (.dup, 1) := by decide +kernel
theorem dX1_addPeak_61 : decode cX1_addPeak 61 = .ok (.getfield 41, 3) := by decide +kernel
theorem dX1_addPeak_64 : decode cX1_addPeak 64 = .ok (.iconst 1, 1) := by decide +kernel
theorem dX1_addPeak_65 : decode cX1_addPeak 65 = .ok (.iadd, 1) := by decide +kernel
theorem dX1_addPeak_66 : decode cX1_addPeak 66 = .ok (.putfield 41, 3) := by decide +kernel
theorem dX1_addPeak_69 : decode cX1_addPeak 69 = .ok (.return_, 1) := by decide +kernel
set_option maxRecDepth 20000 in
theorem ggX1_addRidge_X1_hasPeak : GoodIn wsX1_addRidge wsX1_hasPeak := goodIn_r _ [8, 9, 10, 11, 12, 13, 14, 15, 16, 17, 18, 19, 20] (by decide +kernel) (by decide +kernel)
set_option maxRecDepth 20000 in
theorem gX1_addRidge_X1_hasPeak : GoodIn wsX1_addRidge (wsV RX1 55 RX1 yX1_hasPeak wsX1_hasPeak) := goodIn_app (goodIn_of _ (by decide +kernel)) ggX1_addRidge_X1_hasPeak
theorem dX1_addRidge_0 : decode cX1_addRidge 0 = .ok (.aload_n 0, 1) := by decide +kernel
theorem dX1_addRidge_1 : decode cX1_addRidge 1 = .ok (.getfield 44, 3) := by decide +kernel
theorem dX1_addRidge_4 : decode cX1_addRidge 4 = .ok (.bipush 8, 2) := by decide +kernel
theorem dX1_addRidge_6 : decode cX1_addRidge 6 = .ok (.if_icmp .ge 49, 3) := by decide +kernel
theorem dX1_addRidge_9 : decode cX1_addRidge 9 = .ok (.aload_n 0, 1) := by decide +kernel
theorem dX1_addRidge_10 : decode cX1_addRidge 10 = .ok (.iload_n 1, 1) := by decide +kernel
theorem dX1_addRidge_11 : decode cX1_addRidge 11 = .ok (.invokevirtual 55, 3) := by decide +kernel
theorem dX1_addRidge_14 : decode cX1_addRidge 14 = .ok (.ifCond .eq 41, 3) := by decide +kernel
theorem dX1_addRidge_17 : decode cX1_addRidge 17 = .ok (.aload_n 0, 1) := by decide +kernel
theorem dX1_addRidge_18 : decode cX1_addRidge 18 = .ok (.iload_n 2, 1) := by decide +kernel
theorem dX1_addRidge_19 : decode cX1_addRidge 19 = .ok (.invokevirtual 55, 3) := by decide +kernel
theorem dX1_addRidge_22 : decode cX1_addRidge 22 = .ok (.ifCond .eq 33, 3) := by decide +kernel
theorem dX1_addRidge_25 : decode cX1_addRidge 25 = .ok (.aload_n 0, 1) := by decide +kernel
theorem dX1_addRidge_26 : decode cX1_addRidge 26 = .ok (.getfield 21, 3) := by decide +kernel
theorem dX1_addRidge_29 : decode cX1_addRidge 29 = .ok (.aload_n 0, 1) := by decide +kernel
theorem dX1_addRidge_30 : decode cX1_addRidge 30 = .ok (.getfield 44, 3) := by decide +kernel
theorem dX1_addRidge_33 : decode cX1_addRidge 33 = .ok (.iload_n 1, 1) := by decide +kernel
theorem dX1_addRidge_34 : decode cX1_addRidge 34 = .ok (.iastore, 1) := by decide +kernel
theorem dX1_addRidge_35 : decode cX1_addRidge 35 = .ok (.aload_n 0, 1) := by decide +kernel
theorem dX1_addRidge_36 : decode cX1_addRidge 36 = .ok (.getfield 24, 3) := by decide +kernel
theorem dX1_addRidge_39 : decode cX1_addRidge 39 = .ok (.aload_n 0, 1) := by decide +kernel
theorem dX1_addRidge_40 : decode cX1_addRidge 40 = .ok (.getfield 44, 3) := by decide +kernel
theorem dX1_addRidge_43 : decode cX1_addRidge 43 = .ok (.iload_n 2, 1) := by decide +kernel
theorem dX1_addRidge_44 : decode cX1_addRidge 44 = .ok (.iastore, 1) := by decide +kernel
theorem dX1_addRidge_45 : decode cX1_addRidge 45 = .ok (.aload_n 0, 1) := by decide +kernel
theorem dX1_addRidge_46 : decode cX1_addRidge 46 = .ok (.dup, 1) := by decide +kernel
theorem dX1_addRidge_47 : decode cX1_addRidge 47 = .ok (.getfield 44, 3) := by decide +kernel
theorem dX1_addRidge_50 : decode cX1_addRidge 50 = .ok (.iconst 1, 1) := by decide +kernel
theorem dX1_addRidge_51 : decode cX1_addRidge 51 = .ok (.iadd, 1) := by decide +kernel
theorem dX1_addRidge_52 : decode cX1_addRidge 52 = .ok (.putfield 44, 3) := by decide +kernel
theorem dX1_addRidge_55 : decode cX1_addRidge 55 = .ok (.return_, 1) := by decide +kernel
set_option maxRecDepth 20000 in
theorem ggX1_become_X1_empty : GoodIn wsX1_become wsX1_empty := goodIn_r _ [13, 1, 5, 8, 14, 34, 35, 36, 37, 38, 39, 40, 41, 42, 43, 44] (by decide +kernel) (by decide +kernel)
set_option maxRecDepth 20000 in
theorem gX1_become_X1_empty : GoodIn wsX1_become (wsV RX1 59 RX1 yX1_empty wsX1_empty) := goodIn_app (goodIn_of _ (by decide +kernel)) ggX1_become_X1_empty
set_option maxRecDepth 20000 in
theorem ggX1_become_X1_addPeak : GoodIn wsX1_become wsX1_addPeak := goodIn_r _ [18, 1, 2, 3, 4, 14, 19, 20, 21, 12, 22, 23, 24, 25, 34, 35, 36, 37, 38, 39, 40, 41, 42, 43, 44] (by decide +kernel) (by decide +kernel)
set_option maxRecDepth 20000 in
theorem gX1_become_X1_addPeak : GoodIn wsX1_become (wsV RX1 62 RX1 yX1_addPeak wsX1_addPeak) := goodIn_app (goodIn_of _ (by decide +kernel)) ggX1_become_X1_addPeak
set_option maxRecDepth 20000 in
theorem ggX1_become_X1_addRidge : GoodIn wsX1_become wsX1_addRidge := goodIn_r _ [29, 5, 6, 7, 30, 31, 32, 12, 33, 1, 34, 35, 36, 37, 38, 39, 40, 41, 42, 43, 44] (by decide +kernel) (by decide +kernel)
set_option maxRecDepth 20000 in
theorem gX1_become_X1_addRidge : GoodIn wsX1_become (wsV RX1 66 RX1 yX1_addRidge wsX1_addRidge) := goodIn_app (goodIn_of _ (by decide +kernel)) ggX1_become_X1_addRidge
theorem dX1_become_0 : decode cX1_become 0 = .ok (.aload_n 0, 1) := by decide +kernel
theorem dX1_become_1 : decode cX1_become 1 = .ok (.invokevirtual 59, 3) := by decide +kernel
theorem dX1_become_4 : decode cX1_become 4 = .ok (.iconst 0, 1) := by decide +kernel
theorem dX1_become_5 : decode cX1_become 5 = .ok (.istore_n 2, 1) := by decide +kernel
theorem dX1_become_6 : decode cX1_become 6 = .ok (.iload_n 2, 1) := by decide +kernel
theorem dX1_become_7 : decode cX1_become 7 = .ok (.aload_n 1, 1) := by decide +kernel
theorem dX1_become_8 : decode cX1_become 8 = .ok (.getfield 41, 3) := by decide +kernel
theorem dX1_become_11 : decode cX1_become 11 = .ok (.if_icmp .ge 31, 3) := by decide +kernel
theorem dX1_become_14 : decode cX1_become 14 = .ok (.aload_n 0, 1) := by decide +kernel
theorem dX1_become_15 : decode cX1_become 15 = .ok (.aload_n 1, 1) := by decide +kernel
theorem dX1_become_16 : decode cX1_become 16 = .ok (.getfield 9, 3) := by decide +kernel
theorem dX1_become_19 : decode cX1_become 19 = .ok (.iload_n 2, 1) := by decide +kernel
theorem dX1_become_20 : decode cX1_become 20 = .ok (.iaload, 1) := by decide +kernel
theorem dX1_become_21 : decode cX1_become 21 = .ok (.aload_n 1, 1) := by decide +kernel
theorem dX1_become_22 : decode cX1_become 22 = .ok (.getfield 15, 3) := by decide +kernel
theorem dX1_become_25 : decode cX1_become 25 = .ok (.iload_n 2, 1) := by decide +kernel
theorem dX1_become_26 : decode cX1_become 26 = .ok (.iaload, 1) := by decide +kernel
theorem dX1_become_27 : decode cX1_become 27 = .ok (.aload_n 1, 1) := by decide +kernel
theorem dX1_become_28 : decode cX1_become 28 = .ok (.getfield 18, 3) := by decide +kernel
theorem dX1_become_31 : decode cX1_become 31 = .ok (.iload_n 2, 1) := by decide +kernel
theorem dX1_become_32 : decode cX1_become 32 = .ok (.iaload, 1) := by decide +kernel
theorem dX1_become_33 : decode cX1_become 33 = .ok (.invokevirtual 62, 3) := by decide +kernel
theorem dX1_become_36 : decode cX1_become 36 = .ok (.iinc 2 1, 3) := by decide +kernel
theorem dX1_become_39 : decode cX1_become 39 = .ok (.goto (-33), 3) := by decide +kernel
theorem dX1_become_42 : decode cX1_become 42 = .ok (.iconst 0, 1) := by decide +kernel
theorem dX1_become_43 : decode cX1_become 43 = .ok (.istore_n 2, 1) := by decide +kernel
theorem dX1_become_44 : decode cX1_become 44 = .ok (.iload_n 2, 1) := by decide +kernel
theorem dX1_become_45 : decode cX1_become 45 = .ok (.aload_n 1, 1) := by decide +kernel
theorem dX1_become_46 : decode cX1_become 46 = .ok (.getfield 44, 3) := by decide +kernel
theorem dX1_become_49 : decode cX1_become 49 = .ok (.if_icmp .ge 25, 3) := by decide +kernel
theorem dX1_become_52 : decode cX1_become 52 = .ok (.aload_n 0, 1) := by decide +kernel
theorem dX1_become_53 : decode cX1_become 53 = .ok (.aload_n 1, 1) := by decide +kernel
theorem dX1_become_54 : decode cX1_become 54 = .ok (.getfield 21, 3) := by decide +kernel
theorem dX1_become_57 : decode cX1_become 57 = .ok (.iload_n 2, 1) := by decide +kernel
theorem dX1_become_58 : decode cX1_become 58 = .ok (.iaload, 1) := by decide +kernel
theorem dX1_become_59 : decode cX1_become 59 = .ok (.aload_n 1, 1) := by decide +kernel
theorem dX1_become_60 : decode cX1_become 60 = .ok (.getfield 24, 3) := by decide +kernel
theorem dX1_become_63 : decode cX1_become 63 = .ok (.iload_n 2, 1) := by decide +kernel
theorem dX1_become_64 : decode cX1_become 64 = .ok (.iaload, 1) := by decide +kernel
theorem dX1_become_65 : decode cX1_become 65 = .ok (.invokevirtual 66, 3) := by decide +kernel
theorem dX1_become_68 : decode cX1_become 68 = .ok (.iinc 2 1, 3) := by decide +kernel
theorem dX1_become_71 : decode cX1_become 71 = .ok (.goto (-27), 3) := by decide +kernel
theorem dX1_become_74 : decode cX1_become 74 = .ok (.aload_n 0, 1) := by decide +kernel
theorem dX1_become_75 : decode cX1_become 75 = .ok (.aload_n 1, 1) := by decide +kernel
theorem dX1_become_76 : decode cX1_become 76 = .ok (.getfield 27, 3) := by decide +kernel
theorem dX1_become_79 : decode cX1_become 79 = .ok (.putfield 27, 3) := by decide +kernel
theorem dX1_become_82 : decode cX1_become 82 = .ok (.return_, 1) := by decide +kernel
theorem dX1_hasPeak_0 : decode cX1_hasPeak 0 = .ok (.iload_n 1, 1) := by decide +kernel
theorem dX1_hasPeak_1 : decode cX1_hasPeak 1 = .ok (.ifCond .lt 15, 3) := by decide +kernel
theorem dX1_hasPeak_4 : decode cX1_hasPeak 4 = .ok (.iload_n 1, 1) := by decide +kernel
theorem dX1_hasPeak_5 : decode cX1_hasPeak 5 = .ok (.aload_n 0, 1) := by decide +kernel
theorem dX1_hasPeak_6 : decode cX1_hasPeak 6 = .ok (.getfield 41, 3) := by decide +kernel
theorem dX1_hasPeak_9 : decode cX1_hasPeak 9 = .ok (.if_icmp .ge 7, 3) := by decide +kernel
theorem dX1_hasPeak_12 : decode cX1_hasPeak 12 = .ok (.iconst 1, 1) := by decide +kernel
theorem dX1_hasPeak_13 : decode cX1_hasPeak 13 = .ok (.goto 4, 3) := by decide +kernel
theorem dX1_hasPeak_16 : decode cX1_hasPeak 16 = .ok (.iconst 0, 1) := by decide +kernel
theorem dX1_hasPeak_17 : decode cX1_hasPeak 17 = .ok (.ireturn, 1) := by decide +kernel
set_option maxRecDepth 20000 in
theorem ggX1_isPlace_X7_pointOf : GoodIn wsX1_isPlace wsX7_pointOf := goodIn_r _ [4] (by decide +kernel) (by decide +kernel)
set_option maxRecDepth 20000 in
theorem gX1_isPlace_X7_pointOf_n51 : GoodIn wsX1_isPlace (wsX7_pointOf) := ggX1_isPlace_X7_pointOf
theorem dX1_isPlace_0 : decode cX1_isPlace 0 = .ok (.iload_n 1, 1) := by decide +kernel
theorem dX1_isPlace_1 : decode cX1_isPlace 1 = .ok (.ifCond .lt 36, 3) := by decide +kernel
theorem dX1_isPlace_4 : decode cX1_isPlace 4 = .ok (.iload_n 1, 1) := by decide +kernel
theorem dX1_isPlace_5 : decode cX1_isPlace 5 = .ok (.bipush 8, 2) := by decide +kernel
theorem dX1_isPlace_7 : decode cX1_isPlace 7 = .ok (.if_icmp .ge 30, 3) := by decide +kernel
theorem dX1_isPlace_10 : decode cX1_isPlace 10 = .ok (.iload_n 2, 1) := by decide +kernel
theorem dX1_isPlace_11 : decode cX1_isPlace 11 = .ok (.ifCond .lt 26, 3) := by decide +kernel
theorem dX1_isPlace_14 : decode cX1_isPlace 14 = .ok (.iload_n 2, 1) := by decide +kernel
theorem dX1_isPlace_15 : decode cX1_isPlace 15 = .ok (.bipush 8, 2) := by decide +kernel
theorem dX1_isPlace_17 : decode cX1_isPlace 17 = .ok (.if_icmp .ge 20, 3) := by decide +kernel
theorem dX1_isPlace_20 : decode cX1_isPlace 20 = .ok (.aload_n 0, 1) := by decide +kernel
theorem dX1_isPlace_21 : decode cX1_isPlace 21 = .ok (.getfield 31, 3) := by decide +kernel
theorem dX1_isPlace_24 : decode cX1_isPlace 24 = .ok (.iload_n 1, 1) := by decide +kernel
theorem dX1_isPlace_25 : decode cX1_isPlace 25 = .ok (.iload_n 2, 1) := by decide +kernel
theorem dX1_isPlace_26 : decode cX1_isPlace 26 = .ok (.invokestatic 51, 3) := by decide +kernel
theorem dX1_isPlace_29 : decode cX1_isPlace 29 = .ok (.baload, 1) := by decide +kernel
theorem dX1_isPlace_30 : decode cX1_isPlace 30 = .ok (.ifCond .ne 7, 3) := by decide +kernel
theorem dX1_isPlace_33 : decode cX1_isPlace 33 = .ok (.iconst 1, 1) := by decide +kernel
theorem dX1_isPlace_34 : decode cX1_isPlace 34 = .ok (.goto 4, 3) := by decide +kernel
theorem dX1_isPlace_37 : decode cX1_isPlace 37 = .ok (.iconst 0, 1) := by decide +kernel
theorem dX1_isPlace_38 : decode cX1_isPlace 38 = .ok (.ireturn, 1) := by decide +kernel
theorem dX1_allPeaks_0 : decode cX1_allPeaks 0 = .ok (.iconst 1, 1) := by decide +kernel
theorem dX1_allPeaks_1 : decode cX1_allPeaks 1 = .ok (.aload_n 0, 1) := by decide +kernel
theorem dX1_allPeaks_2 : decode cX1_allPeaks 2 = .ok (.getfield 41, 3) := by decide +kernel
theorem dX1_allPeaks_5 : decode cX1_allPeaks 5 = .ok (.ishl, 1) := by decide +kernel
theorem dX1_allPeaks_6 : decode cX1_allPeaks 6 = .ok (.iconst 1, 1) := by decide +kernel
theorem dX1_allPeaks_7 : decode cX1_allPeaks 7 = .ok (.isub, 1) := by decide +kernel
theorem dX1_allPeaks_8 : decode cX1_allPeaks 8 = .ok (.ireturn, 1) := by decide +kernel
set_option maxRecDepth 20000 in
theorem ggX1_survey_X1_isHidden : GoodIn wsX1_survey wsX1_isHidden := goodIn_r _ [8, 2, 9, 10, 11, 12, 7, 13, 14, 15, 16, 17, 18, 19, 20, 21, 22, 23, 24, 25, 26, 27, 28, 29, 30, 31, 32, 33, 34, 35, 36, 37, 38, 39, 40, 41, 42, 43, 44, 45, 46, 47, 48, 49, 50, 51, 52, 53, 54, 55, 56, 57, 58, 59, 60] (by decide +kernel) (by decide +kernel)
set_option maxRecDepth 20000 in
theorem gX1_survey_X1_isHidden : GoodIn wsX1_survey (wsV RX1 70 RX1 yX1_isHidden wsX1_isHidden) := goodIn_app (goodIn_of _ (by decide +kernel)) ggX1_survey_X1_isHidden
theorem dX1_survey_0 : decode cX1_survey 0 = .ok (.iconst 0, 1) := by decide +kernel
theorem dX1_survey_1 : decode cX1_survey 1 = .ok (.istore_n 1, 1) := by decide +kernel
theorem dX1_survey_2 : decode cX1_survey 2 = .ok (.iload_n 1, 1) := by decide +kernel
theorem dX1_survey_3 : decode cX1_survey 3 = .ok (.bipush 64, 2) := by decide +kernel
theorem dX1_survey_5 : decode cX1_survey 5 = .ok (.if_icmp .ge 62, 3) := by decide +kernel
theorem dX1_survey_8 : decode cX1_survey 8 = .ok (.aload_n 0, 1) := by decide +kernel
theorem dX1_survey_9 : decode cX1_survey 9 = .ok (.getfield 35, 3) := by decide +kernel
theorem dX1_survey_12 : decode cX1_survey 12 = .ok (.iload_n 1, 1) := by decide +kernel
theorem dX1_survey_13 : decode cX1_survey 13 = .ok (.iconst 0, 1) := by decide +kernel
theorem dX1_survey_14 : decode cX1_survey 14 = .ok (.iastore, 1) := by decide +kernel
theorem dX1_survey_15 : decode cX1_survey 15 = .ok (.iconst 0, 1) := by decide +kernel
theorem dX1_survey_16 : decode cX1_survey 16 = .ok (.istore_n 2, 1) := by decide +kernel
theorem dX1_survey_17 : decode cX1_survey 17 = .ok (.iload_n 2, 1) := by decide +kernel
theorem dX1_survey_18 : decode cX1_survey 18 = .ok (.aload_n 0, 1) := by decide +kernel
theorem dX1_survey_19 : decode cX1_survey 19 = .ok (.getfield 41, 3) := by decide +kernel
theorem dX1_survey_22 : decode cX1_survey 22 = .ok (.if_icmp .ge 39, 3) := by decide +kernel
theorem dX1_survey_25 : decode cX1_survey 25 = .ok (.aload_n 0, 1) := by decide +kernel
theorem dX1_survey_26 : decode cX1_survey 26 = .ok (.getfield 31, 3) := by decide +kernel
theorem dX1_survey_29 : decode cX1_survey 29 = .ok (.iload_n 1, 1) := by decide +kernel
theorem dX1_survey_30 : decode cX1_survey 30 = .ok (.baload, 1) := by decide +kernel
theorem dX1_survey_31 : decode cX1_survey 31 = .ok (.ifCond .ne 30, 3) := by decide +kernel
theorem dX1_survey_34 : decode cX1_survey 34 = .ok (.aload_n 0, 1) := by decide +kernel
theorem dX1_survey_35 : decode cX1_survey 35 = .ok (.iload_n 1, 1) := by decide +kernel
theorem dX1_survey_36 : decode cX1_survey 36 = .ok (.iload_n 2, 1) := by decide +kernel
theorem dX1_survey_37 : decode cX1_survey 37 = .ok (.invokevirtual 70, 3) := by decide +kernel
theorem dX1_survey_40 : decode cX1_survey 40 = .ok (.ifCond .ne 15, 3) := by decide +kernel
theorem dX1_survey_43 : decode cX1_survey 43 = .ok (.aload_n 0, 1) := by decide +kernel
theorem dX1_survey_44 : decode cX1_survey 44 = .ok (.getfield 35, 3) := by decide +kernel
theorem dX1_survey_47 : decode cX1_survey 47 = .ok (.iload_n 1, 1) := by decide +kernel
theorem dX1_survey_48 : decode cX1_survey 48 = .ok (.dup2, 1) := by decide +kernel
theorem dX1_survey_49 : decode cX1_survey 49 = .ok (.iaload, 1) := by decide +kernel
theorem dX1_survey_50 : decode cX1_survey 50 = .ok (.iconst 1, 1) := by decide +kernel
theorem dX1_survey_51 : decode cX1_survey 51 = .ok (.iload_n 2, 1) := by decide +kernel
theorem dX1_survey_52 : decode cX1_survey 52 = .ok (.ishl, 1) := by decide +kernel
theorem dX1_survey_53 : decode cX1_survey 53 = .ok (.ior, 1) := by decide +kernel
theorem dX1_survey_54 : decode cX1_survey 54 = .ok (.iastore, 1) := by decide +kernel
theorem dX1_survey_55 : decode cX1_survey 55 = .ok (.iinc 2 1, 3) := by decide +kernel
theorem dX1_survey_58 : decode cX1_survey 58 = .ok (.goto (-41), 3) := by decide +kernel
theorem dX1_survey_61 : decode cX1_survey 61 = .ok (.iinc 1 1, 3) := by decide +kernel
theorem dX1_survey_64 : decode cX1_survey 64 = .ok (.goto (-62), 3) := by decide +kernel
theorem dX1_survey_67 : decode cX1_survey 67 = .ok (.return_, 1) := by decide +kernel
theorem dX1_isInSight_0 : decode cX1_isInSight 0 = .ok (.aload_n 0, 1) := by decide +kernel
theorem dX1_isInSight_1 : decode cX1_isInSight 1 = .ok (.getfield 35, 3) := by decide +kernel
theorem dX1_isInSight_4 : decode cX1_isInSight 4 = .ok (.iload_n 1, 1) := by decide +kernel
theorem dX1_isInSight_5 : decode cX1_isInSight 5 = .ok (.iaload, 1) := by decide +kernel
theorem dX1_isInSight_6 : decode cX1_isInSight 6 = .ok (.iload_n 2, 1) := by decide +kernel
theorem dX1_isInSight_7 : decode cX1_isInSight 7 = .ok (.ishr, 1) := by decide +kernel
theorem dX1_isInSight_8 : decode cX1_isInSight 8 = .ok (.iconst 1, 1) := by decide +kernel
theorem dX1_isInSight_9 : decode cX1_isInSight 9 = .ok (.iand, 1) := by decide +kernel
theorem dX1_isInSight_10 : decode cX1_isInSight 10 = .ok (.ifCond .eq 7, 3) := by decide +kernel
theorem dX1_isInSight_13 : decode cX1_isInSight 13 = .ok (.iconst 1, 1) := by decide +kernel
theorem dX1_isInSight_14 : decode cX1_isInSight 14 = .ok (.goto 4, 3) := by decide +kernel
theorem dX1_isInSight_17 : decode cX1_isInSight 17 = .ok (.iconst 0, 1) := by decide +kernel
theorem dX1_isInSight_18 : decode cX1_isInSight 18 = .ok (.ireturn, 1) := by decide +kernel
theorem dX1_rightOf_0 : decode cX1_rightOf 0 = .ok (.aload_n 0, 1) := by decide +kernel
theorem dX1_rightOf_1 : decode cX1_rightOf 1 = .ok (.getfield 9, 3) := by decide +kernel
theorem dX1_rightOf_4 : decode cX1_rightOf 4 = .ok (.iload_n 2, 1) := by decide +kernel
theorem dX1_rightOf_5 : decode cX1_rightOf 5 = .ok (.iaload, 1) := by decide +kernel
theorem dX1_rightOf_6 : decode cX1_rightOf 6 = .ok (.iload_n 1, 1) := by decide +kernel
theorem dX1_rightOf_7 : decode cX1_rightOf 7 = .ok (.bipush 8, 2) := by decide +kernel
theorem dX1_rightOf_9 : decode cX1_rightOf 9 = .ok (.idiv, 1) := by decide +kernel
theorem dX1_rightOf_10 : decode cX1_rightOf 10 = .ok (.isub, 1) := by decide +kernel
theorem dX1_rightOf_11 : decode cX1_rightOf 11 = .ok (.ireturn, 1) := by decide +kernel
theorem dX1_upOf_0 : decode cX1_upOf 0 = .ok (.aload_n 0, 1) := by decide +kernel
theorem dX1_upOf_1 : decode cX1_upOf 1 = .ok (.getfield 15, 3) := by decide +kernel
theorem dX1_upOf_4 : decode cX1_upOf 4 = .ok (.iload_n 2, 1) := by decide +kernel
theorem dX1_upOf_5 : decode cX1_upOf 5 = .ok (.iaload, 1) := by decide +kernel
theorem dX1_upOf_6 : decode cX1_upOf 6 = .ok (.iload_n 1, 1) := by decide +kernel
theorem dX1_upOf_7 : decode cX1_upOf 7 = .ok (.bipush 8, 2) := by decide +kernel
theorem dX1_upOf_9 : decode cX1_upOf 9 = .ok (.irem, 1) := by decide +kernel
theorem dX1_upOf_10 : decode cX1_upOf 10 = .ok (.isub, 1) := by decide +kernel
theorem dX1_upOf_11 : decode cX1_upOf 11 = .ok (.ireturn, 1) := by decide +kernel
set_option maxRecDepth 20000 in
theorem ggX1_reach_X1_rightOf : GoodIn wsX1_reach wsX1_rightOf := goodIn_r _ [12, 13, 19, 20, 21, 22, 23, 24, 25, 26, 27, 28, 29] (by decide +kernel) (by decide +kernel)
set_option maxRecDepth 20000 in
theorem gX1_reach_X1_rightOf : GoodIn wsX1_reach (wsV RX1 73 RX1 yX1_rightOf wsX1_rightOf) := goodIn_app (goodIn_of _ (by decide +kernel)) ggX1_reach_X1_rightOf
set_option maxRecDepth 20000 in
theorem ggX1_reach_X1_upOf : GoodIn wsX1_reach wsX1_upOf := goodIn_r _ [17, 18, 19, 20, 21, 22, 23, 24, 25, 26, 27, 28, 29] (by decide +kernel) (by decide +kernel)
set_option maxRecDepth 20000 in
theorem gX1_reach_X1_upOf : GoodIn wsX1_reach (wsV RX1 82 RX1 yX1_upOf wsX1_upOf) := goodIn_app (goodIn_of _ (by decide +kernel)) ggX1_reach_X1_upOf
theorem dX1_reach_0 : decode cX1_reach 0 = .ok (.aload_n 0, 1) := by decide +kernel
theorem dX1_reach_1 : decode cX1_reach 1 = .ok (.iload_n 1, 1) := by decide +kernel
theorem dX1_reach_2 : decode cX1_reach 2 = .ok (.iload_n 2, 1) := by decide +kernel
theorem dX1_reach_3 : decode cX1_reach 3 = .ok (.invokevirtual 73, 3) := by decide +kernel
theorem dX1_reach_6 : decode cX1_reach 6 = .ok (.invokestatic 76, 3) := by decide +kernel
theorem dX1_reach_9 : decode cX1_reach 9 = .ok (.aload_n 0, 1) := by decide +kernel
theorem dX1_reach_10 : decode cX1_reach 10 = .ok (.iload_n 1, 1) := by decide +kernel
theorem dX1_reach_11 : decode cX1_reach 11 = .ok (.iload_n 2, 1) := by decide +kernel
theorem dX1_reach_12 : decode cX1_reach 12 = .ok (.invokevirtual 82, 3) := by decide +kernel
theorem dX1_reach_15 : decode cX1_reach 15 = .ok (.invokestatic 76, 3) := by decide +kernel
theorem dX1_reach_18 : decode cX1_reach 18 = .ok (.invokestatic 85, 3) := by decide +kernel
theorem dX1_reach_21 : decode cX1_reach 21 = .ok (.ireturn, 1) := by decide +kernel
set_option maxRecDepth 20000 in
theorem ggX1_isHidden_X1_peakHides : GoodIn wsX1_isHidden wsX1_peakHides := goodIn_r _ [7, 8, 9, 10, 11, 6, 12, 13, 14, 15, 16, 17, 18, 19, 20, 21, 22, 23, 24, 25, 26, 27, 28, 29, 30, 31, 32, 33, 34, 35, 36, 37, 44, 45, 46, 47, 48, 49, 50, 51, 52, 53, 54] (by decide +kernel) (by decide +kernel)
set_option maxRecDepth 20000 in
theorem gX1_isHidden_X1_peakHides : GoodIn wsX1_isHidden (wsV RX1 88 RX1 yX1_peakHides wsX1_peakHides) := goodIn_app (goodIn_of _ (by decide +kernel)) ggX1_isHidden_X1_peakHides
set_option maxRecDepth 20000 in
theorem ggX1_isHidden_X1_ridgeHides : GoodIn wsX1_isHidden wsX1_ridgeHides := goodIn_r _ [41, 42, 43, 24, 29, 8, 20, 21, 22, 6, 23, 25, 26, 27, 28, 44, 45, 46, 47, 48, 49, 50, 51, 52, 53, 54] (by decide +kernel) (by decide +kernel)
set_option maxRecDepth 20000 in
theorem gX1_isHidden_X1_ridgeHides : GoodIn wsX1_isHidden (wsV RX1 92 RX1 yX1_ridgeHides wsX1_ridgeHides) := goodIn_app (goodIn_of _ (by decide +kernel)) ggX1_isHidden_X1_ridgeHides
theorem dX1_isHidden_0 : decode cX1_isHidden 0 = .ok (.iconst 0, 1) := by decide +kernel
theorem dX1_isHidden_1 : decode cX1_isHidden 1 = .ok (.istore_n 3, 1) := by decide +kernel
theorem dX1_isHidden_2 : decode cX1_isHidden 2 = .ok (.iload_n 3, 1) := by decide +kernel
theorem dX1_isHidden_3 : decode cX1_isHidden 3 = .ok (.aload_n 0, 1) := by decide +kernel
theorem dX1_isHidden_4 : decode cX1_isHidden 4 = .ok (.getfield 41, 3) := by decide +kernel
theorem dX1_isHidden_7 : decode cX1_isHidden 7 = .ok (.if_icmp .ge 21, 3) := by decide +kernel
theorem dX1_isHidden_10 : decode cX1_isHidden 10 = .ok (.aload_n 0, 1) := by decide +kernel
theorem dX1_isHidden_11 : decode cX1_isHidden 11 = .ok (.iload_n 1, 1) := by decide +kernel
theorem dX1_isHidden_12 : decode cX1_isHidden 12 = .ok (.iload_n 2, 1) := by decide +kernel
theorem dX1_isHidden_13 : decode cX1_isHidden 13 = .ok (.iload_n 3, 1) := by decide +kernel
theorem dX1_isHidden_14 : decode cX1_isHidden 14 = .ok (.invokevirtual 88, 3) := by decide +kernel
theorem dX1_isHidden_17 : decode cX1_isHidden 17 = .ok (.ifCond .eq 5, 3) := by decide +kernel
theorem dX1_isHidden_20 : decode cX1_isHidden 20 = .ok (.iconst 1, 1) := by decide +kernel
theorem dX1_isHidden_21 : decode cX1_isHidden 21 = .ok (.ireturn, 1) := by decide +kernel
theorem dX1_isHidden_22 : decode cX1_isHidden 22 = .ok (.iinc 3 1, 3) := by decide +kernel
theorem dX1_isHidden_25 : decode cX1_isHidden 25 = .ok (.goto (-23), 3) := by decide +kernel
theorem dX1_isHidden_28 : decode cX1_isHidden 28 = .ok (.iconst 0, 1) := by decide +kernel
theorem dX1_isHidden_29 : decode cX1_isHidden 29 = .ok (.istore_n 3, 1) := by decide +kernel
theorem dX1_isHidden_30 : decode cX1_isHidden 30 = .ok (.iload_n 3, 1) := by decide +kernel
theorem dX1_isHidden_31 : decode cX1_isHidden 31 = .ok (.aload_n 0, 1) := by decide +kernel
theorem dX1_isHidden_32 : decode cX1_isHidden 32 = .ok (.getfield 44, 3) := by decide +kernel
theorem dX1_isHidden_35 : decode cX1_isHidden 35 = .ok (.if_icmp .ge 21, 3) := by decide +kernel
theorem dX1_isHidden_38 : decode cX1_isHidden 38 = .ok (.aload_n 0, 1) := by decide +kernel
theorem dX1_isHidden_39 : decode cX1_isHidden 39 = .ok (.iload_n 1, 1) := by decide +kernel
theorem dX1_isHidden_40 : decode cX1_isHidden 40 = .ok (.iload_n 2, 1) := by decide +kernel
theorem dX1_isHidden_41 : decode cX1_isHidden 41 = .ok (.iload_n 3, 1) := by decide +kernel
theorem dX1_isHidden_42 : decode cX1_isHidden 42 = .ok (.invokevirtual 92, 3) := by decide +kernel
theorem dX1_isHidden_45 : decode cX1_isHidden 45 = .ok (.ifCond .eq 5, 3) := by decide +kernel
theorem dX1_isHidden_48 : decode cX1_isHidden 48 = .ok (.iconst 1, 1) := by decide +kernel
theorem dX1_isHidden_49 : decode cX1_isHidden 49 = .ok (.ireturn, 1) := by decide +kernel
theorem dX1_isHidden_50 : decode cX1_isHidden 50 = .ok (.iinc 3 1, 3) := by decide +kernel
theorem dX1_isHidden_53 : decode cX1_isHidden 53 = .ok (.goto (-23), 3) := by decide +kernel
theorem dX1_isHidden_56 : decode cX1_isHidden 56 = .ok (.iconst 0, 1) := by decide +kernel
theorem dX1_isHidden_57 : decode cX1_isHidden 57 = .ok (.ireturn, 1) := by decide +kernel
set_option maxRecDepth 20000 in
theorem ggX1_peakHides_X1_reach : GoodIn wsX1_peakHides wsX1_reach := goodIn_r _ [6, 7, 8, 9, 10, 11, 12, 13, 14, 15, 16, 5, 17, 18, 19, 20, 21, 22, 23, 32, 33, 34, 35, 36, 37, 38, 39, 40, 41, 42] (by decide +kernel) (by decide +kernel)
set_option maxRecDepth 20000 in
theorem gX1_peakHides_X1_reach : GoodIn wsX1_peakHides (wsV RX1 95 RX1 yX1_reach wsX1_reach) := goodIn_app (goodIn_of _ (by decide +kernel)) ggX1_peakHides_X1_reach
set_option maxRecDepth 20000 in
theorem ggX1_peakHides_X1_isSameDirection : GoodIn wsX1_peakHides wsX1_isSameDirection := goodIn_r _ [27, 14, 15, 16, 5, 17, 18, 19, 20, 21, 22, 23, 28, 29, 30, 31, 32, 33, 34, 35, 36, 37, 38, 39, 40, 41, 42] (by decide +kernel) (by decide +kernel)
set_option maxRecDepth 20000 in
theorem gX1_peakHides_X1_isSameDirection : GoodIn wsX1_peakHides (wsV RX1 98 RX1 yX1_isSameDirection wsX1_isSameDirection) := goodIn_app (goodIn_of _ (by decide +kernel)) ggX1_peakHides_X1_isSameDirection
theorem dX1_peakHides_0 : decode cX1_peakHides 0 = .ok (.aload_n 0, 1) := by decide +kernel
theorem dX1_peakHides_1 : decode cX1_peakHides 1 = .ok (.iload_n 1, 1) := by decide +kernel
theorem dX1_peakHides_2 : decode cX1_peakHides 2 = .ok (.iload_n 2, 1) := by decide +kernel
theorem dX1_peakHides_3 : decode cX1_peakHides 3 = .ok (.invokevirtual 95, 3) := by decide +kernel
theorem dX1_peakHides_6 : decode cX1_peakHides 6 = .ok (.istore 4, 2) := by decide +kernel
theorem dX1_peakHides_8 : decode cX1_peakHides 8 = .ok (.aload_n 0, 1) := by decide +kernel
theorem dX1_peakHides_9 : decode cX1_peakHides 9 = .ok (.iload_n 1, 1) := by decide +kernel
theorem dX1_peakHides_10 : decode cX1_peakHides 10 = .ok (.iload_n 3, 1) := by decide +kernel
theorem dX1_peakHides_11 : decode cX1_peakHides 11 = .ok (.invokevirtual 95, 3) := by decide +kernel
theorem dX1_peakHides_14 : decode cX1_peakHides 14 = .ok (.istore 5, 2) := by decide +kernel
theorem dX1_peakHides_16 : decode cX1_peakHides 16 = .ok (.iload 5, 2) := by decide +kernel
theorem dX1_peakHides_18 : decode cX1_peakHides 18 = .ok (.iload 4, 2) := by decide +kernel
theorem dX1_peakHides_20 : decode cX1_peakHides 20 = .ok (.if_icmp .ge 38, 3) := by decide +kernel
theorem dX1_peakHides_23 : decode cX1_peakHides 23 = .ok (.aload_n 0, 1) := by decide +kernel
theorem dX1_peakHides_24 : decode cX1_peakHides 24 = .ok (.iload_n 1, 1) := by decide +kernel
theorem dX1_peakHides_25 : decode cX1_peakHides 25 = .ok (.iload_n 2, 1) := by decide +kernel
theorem dX1_peakHides_26 : decode cX1_peakHides 26 = .ok (.iload_n 3, 1) := by decide +kernel
theorem dX1_peakHides_27 : decode cX1_peakHides 27 = .ok (.invokevirtual 98, 3) := by decide +kernel
theorem dX1_peakHides_30 : decode cX1_peakHides 30 = .ok (.ifCond .eq 28, 3) := by decide +kernel
theorem dX1_peakHides_33 : decode cX1_peakHides 33 = .ok (.aload_n 0, 1) := by decide +kernel
theorem dX1_peakHides_34 : decode cX1_peakHides 34 = .ok (.getfield 18, 3) := by decide +kernel
theorem dX1_peakHides_37 : decode cX1_peakHides 37 = .ok (.iload_n 3, 1) := by decide +kernel
theorem dX1_peakHides_38 : decode cX1_peakHides 38 = .ok (.iaload, 1) := by decide +kernel
theorem dX1_peakHides_39 : decode cX1_peakHides 39 = .ok (.iload 4, 2) := by decide +kernel
theorem dX1_peakHides_41 : decode cX1_peakHides 41 = .ok (.imul, 1) := by decide +kernel
theorem dX1_peakHides_42 : decode cX1_peakHides 42 = .ok (.aload_n 0, 1) := by decide +kernel
theorem dX1_peakHides_43 : decode cX1_peakHides 43 = .ok (.getfield 18, 3) := by decide +kernel
theorem dX1_peakHides_46 : decode cX1_peakHides 46 = .ok (.iload_n 2, 1) := by decide +kernel
theorem dX1_peakHides_47 : decode cX1_peakHides 47 = .ok (.iaload, 1) := by decide +kernel
theorem dX1_peakHides_48 : decode cX1_peakHides 48 = .ok (.iload 5, 2) := by decide +kernel
theorem dX1_peakHides_50 : decode cX1_peakHides 50 = .ok (.imul, 1) := by decide +kernel
theorem dX1_peakHides_51 : decode cX1_peakHides 51 = .ok (.if_icmp .lt 7, 3) := by decide +kernel
theorem dX1_peakHides_54 : decode cX1_peakHides 54 = .ok (.iconst 1, 1) := by decide +kernel
theorem dX1_peakHides_55 : decode cX1_peakHides 55 = .ok (.goto 4, 3) := by decide +kernel
theorem dX1_peakHides_58 : decode cX1_peakHides 58 = .ok (.iconst 0, 1) := by decide +kernel
theorem dX1_peakHides_59 : decode cX1_peakHides 59 = .ok (.ireturn, 1) := by decide +kernel
set_option maxRecDepth 20000 in
theorem ggX1_isSameDirection_X1_rightOf : GoodIn wsX1_isSameDirection wsX1_rightOf := goodIn_r _ [5, 6, 16, 17, 18, 19, 20, 21, 22, 23, 24, 25, 26] (by decide +kernel) (by decide +kernel)
set_option maxRecDepth 20000 in
theorem gX1_isSameDirection_X1_rightOf : GoodIn wsX1_isSameDirection (wsV RX1 73 RX1 yX1_rightOf wsX1_rightOf) := goodIn_app (goodIn_of _ (by decide +kernel)) ggX1_isSameDirection_X1_rightOf
set_option maxRecDepth 20000 in
theorem ggX1_isSameDirection_X1_upOf : GoodIn wsX1_isSameDirection wsX1_upOf := goodIn_r _ [10, 11, 16, 17, 18, 19, 20, 21, 22, 23, 24, 25, 26] (by decide +kernel) (by decide +kernel)
set_option maxRecDepth 20000 in
theorem gX1_isSameDirection_X1_upOf : GoodIn wsX1_isSameDirection (wsV RX1 82 RX1 yX1_upOf wsX1_upOf) := goodIn_app (goodIn_of _ (by decide +kernel)) ggX1_isSameDirection_X1_upOf
set_option maxRecDepth 20000 in
theorem ggX1_isSameDirection_X1_turnLeft : GoodIn wsX1_isSameDirection wsX1_turnLeft := goodIn_r _ [15, 1, 2, 3, 4, 5, 6, 7, 8, 9, 10, 11, 16, 17, 18, 19, 20, 21, 22, 23, 24, 25, 26] (by decide +kernel) (by decide +kernel)
set_option maxRecDepth 20000 in
theorem gX1_isSameDirection_X1_turnLeft : GoodIn wsX1_isSameDirection (wsV RX1 101 RX1 yX1_turnLeft wsX1_turnLeft) := goodIn_app (goodIn_of _ (by decide +kernel)) ggX1_isSameDirection_X1_turnLeft
theorem dX1_isSameDirection_0 : decode cX1_isSameDirection 0 = .ok (.aload_n 0, 1) := by decide +kernel
theorem dX1_isSameDirection_1 : decode cX1_isSameDirection 1 = .ok (.iload_n 1, 1) := by decide +kernel
theorem dX1_isSameDirection_2 : decode cX1_isSameDirection 2 = .ok (.iload_n 2, 1) := by decide +kernel
theorem dX1_isSameDirection_3 : decode cX1_isSameDirection 3 = .ok (.invokevirtual 73, 3) := by decide +kernel
theorem dX1_isSameDirection_6 : decode cX1_isSameDirection 6 = .ok (.aload_n 0, 1) := by decide +kernel
theorem dX1_isSameDirection_7 : decode cX1_isSameDirection 7 = .ok (.iload_n 1, 1) := by decide +kernel
theorem dX1_isSameDirection_8 : decode cX1_isSameDirection 8 = .ok (.iload_n 3, 1) := by decide +kernel
theorem dX1_isSameDirection_9 : decode cX1_isSameDirection 9 = .ok (.invokevirtual 73, 3) := by decide +kernel
theorem dX1_isSameDirection_12 : decode cX1_isSameDirection 12 = .ok (.imul, 1) := by decide +kernel
theorem dX1_isSameDirection_13 : decode cX1_isSameDirection 13 = .ok (.aload_n 0, 1) := by decide +kernel
theorem dX1_isSameDirection_14 : decode cX1_isSameDirection 14 = .ok (.iload_n 1, 1) := by decide +kernel
theorem dX1_isSameDirection_15 : decode cX1_isSameDirection 15 = .ok (.iload_n 2, 1) := by decide +kernel
theorem dX1_isSameDirection_16 : decode cX1_isSameDirection 16 = .ok (.invokevirtual 82, 3) := by decide +kernel
theorem dX1_isSameDirection_19 : decode cX1_isSameDirection 19 = .ok (.aload_n 0, 1) := by decide +kernel
theorem dX1_isSameDirection_20 : decode cX1_isSameDirection 20 = .ok (.iload_n 1, 1) := by decide +kernel
theorem dX1_isSameDirection_21 : decode cX1_isSameDirection 21 = .ok (.iload_n 3, 1) := by decide +kernel
theorem dX1_isSameDirection_22 : decode cX1_isSameDirection 22 = .ok (.invokevirtual 82, 3) := by decide +kernel
theorem dX1_isSameDirection_25 : decode cX1_isSameDirection 25 = .ok (.imul, 1) := by decide +kernel
theorem dX1_isSameDirection_26 : decode cX1_isSameDirection 26 = .ok (.iadd, 1) := by decide +kernel
theorem dX1_isSameDirection_27 : decode cX1_isSameDirection 27 = .ok (.istore 4, 2) := by decide +kernel
theorem dX1_isSameDirection_29 : decode cX1_isSameDirection 29 = .ok (.iload 4, 2) := by decide +kernel
theorem dX1_isSameDirection_31 : decode cX1_isSameDirection 31 = .ok (.ifCond .le 17, 3) := by decide +kernel
theorem dX1_isSameDirection_34 : decode cX1_isSameDirection 34 = .ok (.aload_n 0, 1) := by decide +kernel
theorem dX1_isSameDirection_35 : decode cX1_isSameDirection 35 = .ok (.iload_n 1, 1) := by decide +kernel
theorem dX1_isSameDirection_36 : decode cX1_isSameDirection 36 = .ok (.iload_n 2, 1) := by decide +kernel
theorem dX1_isSameDirection_37 : decode cX1_isSameDirection 37 = .ok (.iload_n 3, 1) := by decide +kernel
theorem dX1_isSameDirection_38 : decode cX1_isSameDirection 38 = .ok (.invokevirtual 101, 3) := by decide +kernel
theorem dX1_isSameDirection_41 : decode cX1_isSameDirection 41 = .ok (.ifCond .ne 7, 3) := by decide +kernel
theorem dX1_isSameDirection_44 : decode cX1_isSameDirection 44 = .ok (.iconst 1, 1) := by decide +kernel
theorem dX1_isSameDirection_45 : decode cX1_isSameDirection 45 = .ok (.goto 4, 3) := by decide +kernel
theorem dX1_isSameDirection_48 : decode cX1_isSameDirection 48 = .ok (.iconst 0, 1) := by decide +kernel
theorem dX1_isSameDirection_49 : decode cX1_isSameDirection 49 = .ok (.ireturn, 1) := by decide +kernel
set_option maxRecDepth 20000 in
theorem ggX1_turnLeft_X1_rightOf : GoodIn wsX1_turnLeft wsX1_rightOf := goodIn_r _ [5, 6, 12, 13, 14, 15, 16, 17, 18, 19, 20, 21, 22] (by decide +kernel) (by decide +kernel)
set_option maxRecDepth 20000 in
theorem gX1_turnLeft_X1_rightOf : GoodIn wsX1_turnLeft (wsV RX1 73 RX1 yX1_rightOf wsX1_rightOf) := goodIn_app (goodIn_of _ (by decide +kernel)) ggX1_turnLeft_X1_rightOf
set_option maxRecDepth 20000 in
theorem ggX1_turnLeft_X1_upOf : GoodIn wsX1_turnLeft wsX1_upOf := goodIn_r _ [10, 11, 12, 13, 14, 15, 16, 17, 18, 19, 20, 21, 22] (by decide +kernel) (by decide +kernel)
set_option maxRecDepth 20000 in
theorem gX1_turnLeft_X1_upOf : GoodIn wsX1_turnLeft (wsV RX1 82 RX1 yX1_upOf wsX1_upOf) := goodIn_app (goodIn_of _ (by decide +kernel)) ggX1_turnLeft_X1_upOf
theorem dX1_turnLeft_0 : decode cX1_turnLeft 0 = .ok (.aload_n 0, 1) := by decide +kernel
theorem dX1_turnLeft_1 : decode cX1_turnLeft 1 = .ok (.iload_n 1, 1) := by decide +kernel
theorem dX1_turnLeft_2 : decode cX1_turnLeft 2 = .ok (.iload_n 2, 1) := by decide +kernel
theorem dX1_turnLeft_3 : decode cX1_turnLeft 3 = .ok (.invokevirtual 73, 3) := by decide +kernel
theorem dX1_turnLeft_6 : decode cX1_turnLeft 6 = .ok (.aload_n 0, 1) := by decide +kernel
theorem dX1_turnLeft_7 : decode cX1_turnLeft 7 = .ok (.iload_n 1, 1) := by decide +kernel
theorem dX1_turnLeft_8 : decode cX1_turnLeft 8 = .ok (.iload_n 3, 1) := by decide +kernel
theorem dX1_turnLeft_9 : decode cX1_turnLeft 9 = .ok (.invokevirtual 82, 3) := by decide +kernel
theorem dX1_turnLeft_12 : decode cX1_turnLeft 12 = .ok (.imul, 1) := by decide +kernel
theorem dX1_turnLeft_13 : decode cX1_turnLeft 13 = .ok (.aload_n 0, 1) := by decide +kernel
theorem dX1_turnLeft_14 : decode cX1_turnLeft 14 = .ok (.iload_n 1, 1) := by decide +kernel
theorem dX1_turnLeft_15 : decode cX1_turnLeft 15 = .ok (.iload_n 2, 1) := by decide +kernel
theorem dX1_turnLeft_16 : decode cX1_turnLeft 16 = .ok (.invokevirtual 82, 3) := by decide +kernel
theorem dX1_turnLeft_19 : decode cX1_turnLeft 19 = .ok (.aload_n 0, 1) := by decide +kernel
theorem dX1_turnLeft_20 : decode cX1_turnLeft 20 = .ok (.iload_n 1, 1) := by decide +kernel
theorem dX1_turnLeft_21 : decode cX1_turnLeft 21 = .ok (.iload_n 3, 1) := by decide +kernel
theorem dX1_turnLeft_22 : decode cX1_turnLeft 22 = .ok (.invokevirtual 73, 3) := by decide +kernel
theorem dX1_turnLeft_25 : decode cX1_turnLeft 25 = .ok (.imul, 1) := by decide +kernel
theorem dX1_turnLeft_26 : decode cX1_turnLeft 26 = .ok (.isub, 1) := by decide +kernel
theorem dX1_turnLeft_27 : decode cX1_turnLeft 27 = .ok (.ireturn, 1) := by decide +kernel
set_option maxRecDepth 20000 in
theorem ggX1_ridgeHides_X1_rightOf : GoodIn wsX1_ridgeHides wsX1_rightOf := goodIn_r _ [10, 3, 15, 16, 17, 18, 19, 20, 21, 22, 23, 24, 25] (by decide +kernel) (by decide +kernel)
set_option maxRecDepth 20000 in
theorem gX1_ridgeHides_X1_rightOf : GoodIn wsX1_ridgeHides (wsV RX1 73 RX1 yX1_rightOf wsX1_rightOf) := goodIn_app (goodIn_of _ (by decide +kernel)) ggX1_ridgeHides_X1_rightOf
set_option maxRecDepth 20000 in
theorem ggX1_ridgeHides_X1_upOf : GoodIn wsX1_ridgeHides wsX1_upOf := goodIn_r _ [14, 4, 15, 16, 17, 18, 19, 20, 21, 22, 23, 24, 25] (by decide +kernel) (by decide +kernel)
set_option maxRecDepth 20000 in
theorem gX1_ridgeHides_X1_upOf : GoodIn wsX1_ridgeHides (wsV RX1 82 RX1 yX1_upOf wsX1_upOf) := goodIn_app (goodIn_of _ (by decide +kernel)) ggX1_ridgeHides_X1_upOf
theorem dX1_ridgeHides_0 : decode cX1_ridgeHides 0 = .ok (.aload_n 0, 1) := by decide +kernel
theorem dX1_ridgeHides_1 : decode cX1_ridgeHides 1 = .ok (.getfield 21, 3) := by decide +kernel
theorem dX1_ridgeHides_4 : decode cX1_ridgeHides 4 = .ok (.iload_n 3, 1) := by decide +kernel
theorem dX1_ridgeHides_5 : decode cX1_ridgeHides 5 = .ok (.iaload, 1) := by decide +kernel
theorem dX1_ridgeHides_6 : decode cX1_ridgeHides 6 = .ok (.istore 4, 2) := by decide +kernel
theorem dX1_ridgeHides_8 : decode cX1_ridgeHides 8 = .ok (.aload_n 0, 1) := by decide +kernel
theorem dX1_ridgeHides_9 : decode cX1_ridgeHides 9 = .ok (.getfield 24, 3) := by decide +kernel
theorem dX1_ridgeHides_12 : decode cX1_ridgeHides 12 = .ok (.iload_n 3, 1) := by decide +kernel
theorem dX1_ridgeHides_13 : decode cX1_ridgeHides 13 = .ok (.iaload, 1) := by decide +kernel
theorem dX1_ridgeHides_14 : decode cX1_ridgeHides 14 = .ok (.istore 5, 2) := by decide +kernel
theorem dX1_ridgeHides_16 : decode cX1_ridgeHides 16 = .ok (.aload_n 0, 1) := by decide +kernel
theorem dX1_ridgeHides_17 : decode cX1_ridgeHides 17 = .ok (.iload_n 1, 1) := by decide +kernel
theorem dX1_ridgeHides_18 : decode cX1_ridgeHides 18 = .ok (.iload_n 2, 1) := by decide +kernel
theorem dX1_ridgeHides_19 : decode cX1_ridgeHides 19 = .ok (.invokevirtual 73, 3) := by decide +kernel
theorem dX1_ridgeHides_22 : decode cX1_ridgeHides 22 = .ok (.istore 6, 2) := by decide +kernel
theorem dX1_ridgeHides_24 : decode cX1_ridgeHides 24 = .ok (.aload_n 0, 1) := by decide +kernel
theorem dX1_ridgeHides_25 : decode cX1_ridgeHides 25 = .ok (.iload_n 1, 1) := by decide +kernel
theorem dX1_ridgeHides_26 : decode cX1_ridgeHides 26 = .ok (.iload_n 2, 1) := by decide +kernel
theorem dX1_ridgeHides_27 : decode cX1_ridgeHides 27 = .ok (.invokevirtual 82, 3) := by decide +kernel
theorem dX1_ridgeHides_30 : decode cX1_ridgeHides 30 = .ok (.istore 7, 2) := by decide +kernel
theorem dX1_ridgeHides_32 : decode cX1_ridgeHides 32 = .ok (.aload_n 0, 1) := by decide +kernel
theorem dX1_ridgeHides_33 : decode cX1_ridgeHides 33 = .ok (.getfield 9, 3) := by decide +kernel
theorem dX1_ridgeHides_36 : decode cX1_ridgeHides 36 = .ok (.iload 5, 2) := by decide +kernel
theorem dX1_ridgeHides_38 : decode cX1_ridgeHides 38 = .ok (.iaload, 1) := by decide +kernel
theorem dX1_ridgeHides_39 : decode cX1_ridgeHides 39 = .ok (.aload_n 0, 1) := by decide +kernel
theorem dX1_ridgeHides_40 : decode cX1_ridgeHides 40 = .ok (.getfield 9, 3) := by decide +kernel
theorem dX1_ridgeHides_43 : decode cX1_ridgeHides 43 = .ok (.iload 4, 2) := by decide +kernel
theorem dX1_ridgeHides_45 : decode cX1_ridgeHides 45 = .ok (.iaload, 1) := by decide +kernel
theorem dX1_ridgeHides_46 : decode cX1_ridgeHides 46 = .ok (.isub, 1) := by decide +kernel
theorem dX1_ridgeHides_47 : decode cX1_ridgeHides 47 = .ok (.istore 8, 2) := by decide +kernel
theorem dX1_ridgeHides_49 : decode cX1_ridgeHides 49 = .ok (.aload_n 0, 1) := by decide +kernel
theorem dX1_ridgeHides_50 : decode cX1_ridgeHides 50 = .ok (.getfield 15, 3) := by decide +kernel
theorem dX1_ridgeHides_53 : decode cX1_ridgeHides 53 = .ok (.iload 5, 2) := by decide +kernel
theorem dX1_ridgeHides_55 : decode cX1_ridgeHides 55 = .ok (.iaload, 1) := by decide +kernel
theorem dX1_ridgeHides_56 : decode cX1_ridgeHides 56 = .ok (.aload_n 0, 1) := by decide +kernel
theorem dX1_ridgeHides_57 : decode cX1_ridgeHides 57 = .ok (.getfield 15, 3) := by decide +kernel
theorem dX1_ridgeHides_60 : decode cX1_ridgeHides 60 = .ok (.iload 4, 2) := by decide +kernel
theorem dX1_ridgeHides_62 : decode cX1_ridgeHides 62 = .ok (.iaload, 1) := by decide +kernel
theorem dX1_ridgeHides_63 : decode cX1_ridgeHides 63 = .ok (.isub, 1) := by decide +kernel
theorem dX1_ridgeHides_64 : decode cX1_ridgeHides 64 = .ok (.istore 9, 2) := by decide +kernel
theorem dX1_ridgeHides_66 : decode cX1_ridgeHides 66 = .ok (.iload 6, 2) := by decide +kernel
theorem dX1_ridgeHides_68 : decode cX1_ridgeHides 68 = .ok (.iload 9, 2) := by decide +kernel
theorem dX1_ridgeHides_70 : decode cX1_ridgeHides 70 = .ok (.imul, 1) := by decide +kernel
theorem dX1_ridgeHides_71 : decode cX1_ridgeHides 71 = .ok (.iload 7, 2) := by decide +kernel
theorem dX1_ridgeHides_73 : decode cX1_ridgeHides 73 = .ok (.iload 8, 2) := by decide +kernel
theorem dX1_ridgeHides_75 : decode cX1_ridgeHides 75 = .ok (.imul, 1) := by decide +kernel
theorem dX1_ridgeHides_76 : decode cX1_ridgeHides 76 = .ok (.isub, 1) := by decide +kernel
theorem dX1_ridgeHides_77 : decode cX1_ridgeHides 77 = .ok (.istore 10, 2) := by decide +kernel
theorem dX1_ridgeHides_79 : decode cX1_ridgeHides 79 = .ok (.aload_n 0, 1) := by decide +kernel
theorem dX1_ridgeHides_80 : decode cX1_ridgeHides 80 = .ok (.iload_n 1, 1) := by decide +kernel
theorem dX1_ridgeHides_81 : decode cX1_ridgeHides 81 = .ok (.iload 4, 2) := by decide +kernel
theorem dX1_ridgeHides_83 : decode cX1_ridgeHides 83 = .ok (.invokevirtual 73, 3) := by decide +kernel
theorem dX1_ridgeHides_86 : decode cX1_ridgeHides 86 = .ok (.iload 9, 2) := by decide +kernel
theorem dX1_ridgeHides_88 : decode cX1_ridgeHides 88 = .ok (.imul, 1) := by decide +kernel
theorem dX1_ridgeHides_89 : decode cX1_ridgeHides 89 = .ok (.aload_n 0, 1) := by decide +kernel
theorem dX1_ridgeHides_90 : decode cX1_ridgeHides 90 = .ok (.iload_n 1, 1) := by decide +kernel
theorem dX1_ridgeHides_91 : decode cX1_ridgeHides 91 = .ok (.iload 4, 2) := by decide +kernel
theorem dX1_ridgeHides_93 : decode cX1_ridgeHides 93 = .ok (.invokevirtual 82, 3) := by decide +kernel
theorem dX1_ridgeHides_96 : decode cX1_ridgeHides 96 = .ok (.iload 8, 2) := by decide +kernel
theorem dX1_ridgeHides_98 : decode cX1_ridgeHides 98 = .ok (.imul, 1) := by decide +kernel
theorem dX1_ridgeHides_99 : decode cX1_ridgeHides 99 = .ok (.isub, 1) := by decide +kernel
theorem dX1_ridgeHides_100 : decode cX1_ridgeHides 100 = .ok (.istore 11, 2) := by decide +kernel
theorem dX1_ridgeHides_102 : decode cX1_ridgeHides 102 = .ok (.aload_n 0, 1) := by decide +kernel
theorem dX1_ridgeHides_103 : decode cX1_ridgeHides 103 = .ok (.iload_n 1, 1) := by decide +kernel
theorem dX1_ridgeHides_104 : decode cX1_ridgeHides 104 = .ok (.iload 4, 2) := by decide +kernel
theorem dX1_ridgeHides_106 : decode cX1_ridgeHides 106 = .ok (.invokevirtual 73, 3) := by decide +kernel
theorem dX1_ridgeHides_109 : decode cX1_ridgeHides 109 = .ok (.iload 7, 2) := by decide +kernel
theorem dX1_ridgeHides_111 : decode cX1_ridgeHides 111 = .ok (.imul, 1) := by decide +kernel
theorem dX1_ridgeHides_112 : decode cX1_ridgeHides 112 = .ok (.aload_n 0, 1) := by decide +kernel
theorem dX1_ridgeHides_113 : decode cX1_ridgeHides 113 = .ok (.iload_n 1, 1) := by decide +kernel
theorem dX1_ridgeHides_114 : decode cX1_ridgeHides 114 = .ok (.iload 4, 2) := by decide +kernel
theorem dX1_ridgeHides_116 : decode cX1_ridgeHides 116 = .ok (.invokevirtual 82, 3) := by decide +kernel
theorem dX1_ridgeHides_119 : decode cX1_ridgeHides 119 = .ok (.iload 6, 2) := by decide +kernel
theorem dX1_ridgeHides_121 : decode cX1_ridgeHides 121 = .ok (.imul, 1) := by decide +kernel
theorem dX1_ridgeHides_122 : decode cX1_ridgeHides 122 = .ok (.isub, 1) := by decide +kernel
theorem dX1_ridgeHides_123 : decode cX1_ridgeHides 123 = .ok (.istore 12, 2) := by decide +kernel
theorem dX1_ridgeHides_125 : decode cX1_ridgeHides 125 = .ok (.iload 10, 2) := by decide +kernel
theorem dX1_ridgeHides_127 : decode cX1_ridgeHides 127 = .ok (.ifCond .ge 18, 3) := by decide +kernel
theorem dX1_ridgeHides_130 : decode cX1_ridgeHides 130 = .ok (.iload 10, 2) := by decide +kernel
theorem dX1_ridgeHides_132 : decode cX1_ridgeHides 132 = .ok (.ineg, 1) := by decide +kernel
theorem dX1_ridgeHides_133 : decode cX1_ridgeHides 133 = .ok (.istore 10, 2) := by decide +kernel
theorem dX1_ridgeHides_135 : decode cX1_ridgeHides 135 = .ok (.iload 11, 2) := by decide +kernel
theorem dX1_ridgeHides_137 : decode cX1_ridgeHides 137 = .ok (.ineg, 1) := by decide +kernel
theorem dX1_ridgeHides_138 : decode cX1_ridgeHides 138 = .ok (.istore 11, 2) := by decide +kernel
theorem dX1_ridgeHides_140 : decode cX1_ridgeHides 140 = .ok (.iload 12, 2) := by decide +kernel
theorem dX1_ridgeHides_142 : decode cX1_ridgeHides 142 = .ok (.ineg, 1) := by decide +kernel
theorem dX1_ridgeHides_143 : decode cX1_ridgeHides 143 = .ok (.istore 12, 2) := by decide +kernel
theorem dX1_ridgeHides_145 : decode cX1_ridgeHides 145 = .ok (.iload 11, 2) := by decide +kernel
theorem dX1_ridgeHides_147 : decode cX1_ridgeHides 147 = .ok (.ifCond .le 22, 3) := by decide +kernel
theorem dX1_ridgeHides_150 : decode cX1_ridgeHides 150 = .ok (.iload 11, 2) := by decide +kernel
theorem dX1_ridgeHides_152 : decode cX1_ridgeHides 152 = .ok (.iload 10, 2) := by decide +kernel
theorem dX1_ridgeHides_154 : decode cX1_ridgeHides 154 = .ok (.if_icmp .ge 15, 3) := by decide +kernel
theorem dX1_ridgeHides_157 : decode cX1_ridgeHides 157 = .ok (.iload 12, 2) := by decide +kernel
theorem dX1_ridgeHides_159 : decode cX1_ridgeHides 159 = .ok (.ifCond .lt 10, 3) := by decide +kernel
theorem dX1_ridgeHides_162 : decode cX1_ridgeHides 162 = .ok (.iload 12, 2) := by decide +kernel
theorem dX1_ridgeHides_164 : decode cX1_ridgeHides 164 = .ok (.iload 10, 2) := by decide +kernel
theorem dX1_ridgeHides_166 : decode cX1_ridgeHides 166 = .ok (.if_icmp .le 5, 3) := by decide +kernel
theorem dX1_ridgeHides_169 : decode cX1_ridgeHides 169 = .ok (.iconst 0, 1) := by decide +kernel
theorem dX1_ridgeHides_170 : decode cX1_ridgeHides 170 = .ok (.ireturn, 1) := by decide +kernel
theorem dX1_ridgeHides_171 : decode cX1_ridgeHides 171 = .ok (.aload_n 0, 1) := by decide +kernel
theorem dX1_ridgeHides_172 : decode cX1_ridgeHides 172 = .ok (.getfield 18, 3) := by decide +kernel
theorem dX1_ridgeHides_175 : decode cX1_ridgeHides 175 = .ok (.iload 4, 2) := by decide +kernel
theorem dX1_ridgeHides_177 : decode cX1_ridgeHides 177 = .ok (.iaload, 1) := by decide +kernel
theorem dX1_ridgeHides_178 : decode cX1_ridgeHides 178 = .ok (.iload 10, 2) := by decide +kernel
theorem dX1_ridgeHides_180 : decode cX1_ridgeHides 180 = .ok (.imul, 1) := by decide +kernel
theorem dX1_ridgeHides_181 : decode cX1_ridgeHides 181 = .ok (.aload_n 0, 1) := by decide +kernel
theorem dX1_ridgeHides_182 : decode cX1_ridgeHides 182 = .ok (.getfield 18, 3) := by decide +kernel
theorem dX1_ridgeHides_185 : decode cX1_ridgeHides 185 = .ok (.iload 5, 2) := by decide +kernel
theorem dX1_ridgeHides_187 : decode cX1_ridgeHides 187 = .ok (.iaload, 1) := by decide +kernel
theorem dX1_ridgeHides_188 : decode cX1_ridgeHides 188 = .ok (.aload_n 0, 1) := by decide +kernel
theorem dX1_ridgeHides_189 : decode cX1_ridgeHides 189 = .ok (.getfield 18, 3) := by decide +kernel
theorem dX1_ridgeHides_192 : decode cX1_ridgeHides 192 = .ok (.iload 4, 2) := by decide +kernel
theorem dX1_ridgeHides_194 : decode cX1_ridgeHides 194 = .ok (.iaload, 1) := by decide +kernel
theorem dX1_ridgeHides_195 : decode cX1_ridgeHides 195 = .ok (.isub, 1) := by decide +kernel
theorem dX1_ridgeHides_196 : decode cX1_ridgeHides 196 = .ok (.iload 12, 2) := by decide +kernel
theorem dX1_ridgeHides_198 : decode cX1_ridgeHides 198 = .ok (.imul, 1) := by decide +kernel
theorem dX1_ridgeHides_199 : decode cX1_ridgeHides 199 = .ok (.iadd, 1) := by decide +kernel
theorem dX1_ridgeHides_200 : decode cX1_ridgeHides 200 = .ok (.aload_n 0, 1) := by decide +kernel
theorem dX1_ridgeHides_201 : decode cX1_ridgeHides 201 = .ok (.getfield 18, 3) := by decide +kernel
theorem dX1_ridgeHides_204 : decode cX1_ridgeHides 204 = .ok (.iload_n 2, 1) := by decide +kernel
theorem dX1_ridgeHides_205 : decode cX1_ridgeHides 205 = .ok (.iaload, 1) := by decide +kernel
theorem dX1_ridgeHides_206 : decode cX1_ridgeHides 206 = .ok (.iload 11, 2) := by decide +kernel
theorem dX1_ridgeHides_208 : decode cX1_ridgeHides 208 = .ok (.imul, 1) := by decide +kernel
theorem dX1_ridgeHides_209 : decode cX1_ridgeHides 209 = .ok (.if_icmp .lt 7, 3) := by decide +kernel
theorem dX1_ridgeHides_212 : decode cX1_ridgeHides 212 = .ok (.iconst 1, 1) := by decide +kernel
theorem dX1_ridgeHides_213 : decode cX1_ridgeHides 213 = .ok (.goto 4, 3) := by decide +kernel
theorem dX1_ridgeHides_216 : decode cX1_ridgeHides 216 = .ok (.iconst 0, 1) := by decide +kernel
theorem dX1_ridgeHides_217 : decode cX1_ridgeHides 217 = .ok (.ireturn, 1) := by decide +kernel
set_option maxRecDepth 20000 in
theorem ggX1_bearingFrom_X1_rightOf : GoodIn wsX1_bearingFrom wsX1_rightOf := goodIn_r _ [9, 10, 20, 21, 22, 23, 24, 25, 26, 27, 28, 29, 30] (by decide +kernel) (by decide +kernel)
set_option maxRecDepth 20000 in
theorem gX1_bearingFrom_X1_rightOf : GoodIn wsX1_bearingFrom (wsV RX1 73 RX1 yX1_rightOf wsX1_rightOf) := goodIn_app (goodIn_of _ (by decide +kernel)) ggX1_bearingFrom_X1_rightOf
set_option maxRecDepth 20000 in
theorem ggX1_bearingFrom_X1_upOf : GoodIn wsX1_bearingFrom wsX1_upOf := goodIn_r _ [14, 15, 20, 21, 22, 23, 24, 25, 26, 27, 28, 29, 30] (by decide +kernel) (by decide +kernel)
set_option maxRecDepth 20000 in
theorem gX1_bearingFrom_X1_upOf : GoodIn wsX1_bearingFrom (wsV RX1 82 RX1 yX1_upOf wsX1_upOf) := goodIn_app (goodIn_of _ (by decide +kernel)) ggX1_bearingFrom_X1_upOf
set_option maxRecDepth 20000 in
theorem ggX1_bearingFrom_J9_floorDiv_7cf53 : GoodIn wsX1_bearingFrom wsJ9_floorDiv_7cf53 := goodIn_r _ [19] (by decide +kernel) (by decide +kernel)
set_option maxRecDepth 20000 in
theorem gX1_bearingFrom_J9_floorDiv_7cf53 : GoodIn wsX1_bearingFrom (va_wsS RX1 105 yJ9_floorDiv_7cf53 wsJ9_floorDiv_7cf53) := goodIn_app (goodIn_of _ (by decide +kernel)) ggX1_bearingFrom_J9_floorDiv_7cf53
theorem dX1_bearingFrom_0 : decode cX1_bearingFrom 0 = .ok (.aload_n 0, 1) := by decide +kernel
theorem dX1_bearingFrom_1 : decode cX1_bearingFrom 1 = .ok (.iload_n 1, 1) := by decide +kernel
theorem dX1_bearingFrom_2 : decode cX1_bearingFrom 2 = .ok (.iload_n 2, 1) := by decide +kernel
theorem dX1_bearingFrom_3 : decode cX1_bearingFrom 3 = .ok (.invokevirtual 73, 3) := by decide +kernel
theorem dX1_bearingFrom_6 : decode cX1_bearingFrom 6 = .ok (.istore_n 3, 1) := by decide +kernel
theorem dX1_bearingFrom_7 : decode cX1_bearingFrom 7 = .ok (.aload_n 0, 1) := by decide +kernel
theorem dX1_bearingFrom_8 : decode cX1_bearingFrom 8 = .ok (.iload_n 1, 1) := by decide +kernel
theorem dX1_bearingFrom_9 : decode cX1_bearingFrom 9 = .ok (.iload_n 2, 1) := by decide +kernel
theorem dX1_bearingFrom_10 : decode cX1_bearingFrom 10 = .ok (.invokevirtual 82, 3) := by decide +kernel
theorem dX1_bearingFrom_13 : decode cX1_bearingFrom 13 = .ok (.istore 4, 2) := by decide +kernel
theorem dX1_bearingFrom_15 : decode cX1_bearingFrom 15 = .ok (.iconst 0, 1) := by decide +kernel
theorem dX1_bearingFrom_16 : decode cX1_bearingFrom 16 = .ok (.istore 5, 2) := by decide +kernel
theorem dX1_bearingFrom_18 : decode cX1_bearingFrom 18 = .ok (.iload_n 3, 1) := by decide +kernel
theorem dX1_bearingFrom_19 : decode cX1_bearingFrom 19 = .ok (.invokestatic 76, 3) := by decide +kernel
theorem dX1_bearingFrom_22 : decode cX1_bearingFrom 22 = .ok (.iload 4, 2) := by decide +kernel
theorem dX1_bearingFrom_24 : decode cX1_bearingFrom 24 = .ok (.invokestatic 76, 3) := by decide +kernel
theorem dX1_bearingFrom_27 : decode cX1_bearingFrom 27 = .ok (.if_icmp .lt 32, 3) := by decide +kernel
theorem dX1_bearingFrom_30 : decode cX1_bearingFrom 30 = .ok (.iload_n 3, 1) := by decide +kernel
theorem dX1_bearingFrom_31 : decode cX1_bearingFrom 31 = .ok (.ifCond .eq 59, 3) := by decide +kernel
theorem dX1_bearingFrom_34 : decode cX1_bearingFrom 34 = .ok (.bipush 8, 2) := by decide +kernel
theorem dX1_bearingFrom_36 : decode cX1_bearingFrom 36 = .ok (.iload 4, 2) := by decide +kernel
theorem dX1_bearingFrom_38 : decode cX1_bearingFrom 38 = .ok (.imul, 1) := by decide +kernel
theorem dX1_bearingFrom_39 : decode cX1_bearingFrom 39 = .ok (.iload_n 3, 1) := by decide +kernel
theorem dX1_bearingFrom_40 : decode cX1_bearingFrom 40 = .ok (.invokestatic 105, 3) := by decide +kernel
theorem dX1_bearingFrom_43 : decode cX1_bearingFrom 43 = .ok (.iload_n 3, 1) := by decide +kernel
theorem dX1_bearingFrom_44 : decode cX1_bearingFrom 44 = .ok (.ifCond .ge 8, 3) := by decide +kernel
theorem dX1_bearingFrom_47 : decode cX1_bearingFrom 47 = .ok (.bipush 32, 2) := by decide +kernel
theorem dX1_bearingFrom_49 : decode cX1_bearingFrom 49 = .ok (.goto 4, 3) := by decide +kernel
theorem dX1_bearingFrom_52 : decode cX1_bearingFrom 52 = .ok (.iconst 0, 1) := by decide +kernel
theorem dX1_bearingFrom_53 : decode cX1_bearingFrom 53 = .ok (.iadd, 1) := by decide +kernel
theorem dX1_bearingFrom_54 : decode cX1_bearingFrom 54 = .ok (.istore 5, 2) := by decide +kernel
theorem dX1_bearingFrom_56 : decode cX1_bearingFrom 56 = .ok (.goto 34, 3) := by decide +kernel
theorem dX1_bearingFrom_59 : decode cX1_bearingFrom 59 = .ok (.iload 4, 2) := by decide +kernel
theorem dX1_bearingFrom_61 : decode cX1_bearingFrom 61 = .ok (.ifCond .eq 29, 3) := by decide +kernel
theorem dX1_bearingFrom_64 : decode cX1_bearingFrom 64 = .ok (.bipush 16, 2) := by decide +kernel
theorem dX1_bearingFrom_66 : decode cX1_bearingFrom 66 = .ok (.bipush (-8), 2) := by decide +kernel
theorem dX1_bearingFrom_68 : decode cX1_bearingFrom 68 = .ok (.iload_n 3, 1) := by decide +kernel
theorem dX1_bearingFrom_69 : decode cX1_bearingFrom 69 = .ok (.imul, 1) := by decide +kernel
theorem dX1_bearingFrom_70 : decode cX1_bearingFrom 70 = .ok (.iload 4, 2) := by decide +kernel
theorem dX1_bearingFrom_72 : decode cX1_bearingFrom 72 = .ok (.invokestatic 105, 3) := by decide +kernel
theorem dX1_bearingFrom_75 : decode cX1_bearingFrom 75 = .ok (.iadd, 1) := by decide +kernel
theorem dX1_bearingFrom_76 : decode cX1_bearingFrom 76 = .ok (.iload 4, 2) := by decide +kernel
theorem dX1_bearingFrom_78 : decode cX1_bearingFrom 78 = .ok (.ifCond .ge 8, 3) := by decide +kernel
theorem dX1_bearingFrom_81 : decode cX1_bearingFrom 81 = .ok (.bipush 32, 2) := by decide +kernel
theorem dX1_bearingFrom_83 : decode cX1_bearingFrom 83 = .ok (.goto 4, 3) := by decide +kernel
theorem dX1_bearingFrom_86 : decode cX1_bearingFrom 86 = .ok (.iconst 0, 1) := by decide +kernel
theorem dX1_bearingFrom_87 : decode cX1_bearingFrom 87 = .ok (.iadd, 1) := by decide +kernel
theorem dX1_bearingFrom_88 : decode cX1_bearingFrom 88 = .ok (.istore 5, 2) := by decide +kernel
theorem dX1_bearingFrom_90 : decode cX1_bearingFrom 90 = .ok (.iload 5, 2) := by decide +kernel
theorem dX1_bearingFrom_92 : decode cX1_bearingFrom 92 = .ok (.ifCond .ge 11, 3) := by decide +kernel
theorem dX1_bearingFrom_95 : decode cX1_bearingFrom 95 = .ok (.iload 5, 2) := by decide +kernel
theorem dX1_bearingFrom_97 : decode cX1_bearingFrom 97 = .ok (.bipush 64, 2) := by decide +kernel
theorem dX1_bearingFrom_99 : decode cX1_bearingFrom 99 = .ok (.iadd, 1) := by decide +kernel
theorem dX1_bearingFrom_100 : decode cX1_bearingFrom 100 = .ok (.goto 5, 3) := by decide +kernel
theorem dX1_bearingFrom_103 : decode cX1_bearingFrom 103 = .ok (.iload 5, 2) := by decide +kernel
theorem dX1_bearingFrom_105 : decode cX1_bearingFrom 105 = .ok (.ireturn, 1) := by decide +kernel
set_option maxRecDepth 20000 in
theorem ggX1_heightFrom_X1_reach : GoodIn wsX1_heightFrom wsX1_reach := goodIn_r _ [6, 7, 8, 9, 10, 11, 12, 13, 14, 15, 16, 5, 17, 18, 19, 20, 21, 22, 23, 24, 25, 26, 27, 28, 29, 30, 31, 32, 33, 34] (by decide +kernel) (by decide +kernel)
set_option maxRecDepth 20000 in
theorem gX1_heightFrom_X1_reach : GoodIn wsX1_heightFrom (wsV RX1 95 RX1 yX1_reach wsX1_reach) := goodIn_app (goodIn_of _ (by decide +kernel)) ggX1_heightFrom_X1_reach
theorem dX1_heightFrom_0 : decode cX1_heightFrom 0 = .ok (.aload_n 0, 1) := by decide +kernel
theorem dX1_heightFrom_1 : decode cX1_heightFrom 1 = .ok (.iload_n 1, 1) := by decide +kernel
theorem dX1_heightFrom_2 : decode cX1_heightFrom 2 = .ok (.iload_n 2, 1) := by decide +kernel
theorem dX1_heightFrom_3 : decode cX1_heightFrom 3 = .ok (.invokevirtual 95, 3) := by decide +kernel
theorem dX1_heightFrom_6 : decode cX1_heightFrom 6 = .ok (.istore_n 3, 1) := by decide +kernel
theorem dX1_heightFrom_7 : decode cX1_heightFrom 7 = .ok (.iload_n 3, 1) := by decide +kernel
theorem dX1_heightFrom_8 : decode cX1_heightFrom 8 = .ok (.ifCond .ne 7, 3) := by decide +kernel
theorem dX1_heightFrom_11 : decode cX1_heightFrom 11 = .ok (.iconst 0, 1) := by decide +kernel
theorem dX1_heightFrom_12 : decode cX1_heightFrom 12 = .ok (.goto 14, 3) := by decide +kernel
theorem dX1_heightFrom_15 : decode cX1_heightFrom 15 = .ok (.bipush 12, 2) := by decide +kernel
theorem dX1_heightFrom_17 : decode cX1_heightFrom 17 = .ok (.aload_n 0, 1) := by decide +kernel
theorem dX1_heightFrom_18 : decode cX1_heightFrom 18 = .ok (.getfield 18, 3) := by decide +kernel
theorem dX1_heightFrom_21 : decode cX1_heightFrom 21 = .ok (.iload_n 2, 1) := by decide +kernel
theorem dX1_heightFrom_22 : decode cX1_heightFrom 22 = .ok (.iaload, 1) := by decide +kernel
theorem dX1_heightFrom_23 : decode cX1_heightFrom 23 = .ok (.imul, 1) := by decide +kernel
theorem dX1_heightFrom_24 : decode cX1_heightFrom 24 = .ok (.iload_n 3, 1) := by decide +kernel
theorem dX1_heightFrom_25 : decode cX1_heightFrom 25 = .ok (.idiv, 1) := by decide +kernel
theorem dX1_heightFrom_26 : decode cX1_heightFrom 26 = .ok (.ireturn, 1) := by decide +kernel
set_option maxRecDepth 20000 in
theorem ggX1_turnRound_X1_isInSight : GoodIn wsX1_turnRound wsX1_isInSight := goodIn_r _ [7, 8, 42, 43, 44, 45, 46, 47, 48, 49, 50, 51, 52] (by decide +kernel) (by decide +kernel)
set_option maxRecDepth 20000 in
theorem gX1_turnRound_X1_isInSight : GoodIn wsX1_turnRound (wsV RX1 108 RX1 yX1_isInSight wsX1_isInSight) := goodIn_app (goodIn_of _ (by decide +kernel)) ggX1_turnRound_X1_isInSight
set_option maxRecDepth 20000 in
theorem ggX1_turnRound_X1_isAhead : GoodIn wsX1_turnRound wsX1_isAhead := goodIn_r _ [12, 13, 14, 15, 6, 16, 17, 18, 19, 20, 21, 22, 23, 24, 25, 26, 27, 28, 29, 30, 31, 32, 33, 34, 35, 36, 37, 38, 39, 40, 41, 42, 43, 44, 45, 46, 47, 48, 49, 50, 51, 52] (by decide +kernel) (by decide +kernel)
set_option maxRecDepth 20000 in
theorem gX1_turnRound_X1_isAhead : GoodIn wsX1_turnRound (wsV RX1 111 RX1 yX1_isAhead wsX1_isAhead) := goodIn_app (goodIn_of _ (by decide +kernel)) ggX1_turnRound_X1_isAhead
theorem dX1_turnRound_0 : decode cX1_turnRound 0 = .ok (.iconst 0, 1) := by decide +kernel
theorem dX1_turnRound_1 : decode cX1_turnRound 1 = .ok (.istore_n 2, 1) := by decide +kernel
theorem dX1_turnRound_2 : decode cX1_turnRound 2 = .ok (.iconst 0, 1) := by decide +kernel
theorem dX1_turnRound_3 : decode cX1_turnRound 3 = .ok (.istore_n 3, 1) := by decide +kernel
theorem dX1_turnRound_4 : decode cX1_turnRound 4 = .ok (.iload_n 3, 1) := by decide +kernel
theorem dX1_turnRound_5 : decode cX1_turnRound 5 = .ok (.aload_n 0, 1) := by decide +kernel
theorem dX1_turnRound_6 : decode cX1_turnRound 6 = .ok (.getfield 41, 3) := by decide +kernel
theorem dX1_turnRound_9 : decode cX1_turnRound 9 = .ok (.if_icmp .ge 77, 3) := by decide +kernel
theorem dX1_turnRound_12 : decode cX1_turnRound 12 = .ok (.aload_n 0, 1) := by decide +kernel
theorem dX1_turnRound_13 : decode cX1_turnRound 13 = .ok (.iload_n 1, 1) := by decide +kernel
theorem dX1_turnRound_14 : decode cX1_turnRound 14 = .ok (.iload_n 3, 1) := by decide +kernel
theorem dX1_turnRound_15 : decode cX1_turnRound 15 = .ok (.invokevirtual 108, 3) := by decide +kernel
theorem dX1_turnRound_18 : decode cX1_turnRound 18 = .ok (.ifCond .eq 62, 3) := by decide +kernel
theorem dX1_turnRound_21 : decode cX1_turnRound 21 = .ok (.iload_n 2, 1) := by decide +kernel
theorem dX1_turnRound_22 : decode cX1_turnRound 22 = .ok (.istore 4, 2) := by decide +kernel
theorem dX1_turnRound_24 : decode cX1_turnRound 24 = .ok (.iload 4, 2) := by decide +kernel
theorem dX1_turnRound_26 : decode cX1_turnRound 26 = .ok (.ifCond .le 43, 3) := by decide +kernel
theorem dX1_turnRound_29 : decode cX1_turnRound 29 = .ok (.aload_n 0, 1) := by decide +kernel
theorem dX1_turnRound_30 : decode cX1_turnRound 30 = .ok (.iload_n 1, 1) := by decide +kernel
theorem dX1_turnRound_31 : decode cX1_turnRound 31 = .ok (.iload_n 3, 1) := by decide +kernel
theorem dX1_turnRound_32 : decode cX1_turnRound 32 = .ok (.aload_n 0, 1) := by decide +kernel
theorem dX1_turnRound_33 : decode cX1_turnRound 33 = .ok (.getfield 38, 3) := by decide +kernel
theorem dX1_turnRound_36 : decode cX1_turnRound 36 = .ok (.iload 4, 2) := by decide +kernel
theorem dX1_turnRound_38 : decode cX1_turnRound 38 = .ok (.iconst 1, 1) := by decide +kernel
theorem dX1_turnRound_39 : decode cX1_turnRound 39 = .ok (.isub, 1) := by decide +kernel
theorem dX1_turnRound_40 : decode cX1_turnRound 40 = .ok (.iaload, 1) := by decide +kernel
theorem dX1_turnRound_41 : decode cX1_turnRound 41 = .ok (.invokevirtual 111, 3) := by decide +kernel
theorem dX1_turnRound_44 : decode cX1_turnRound 44 = .ok (.ifCond .eq 25, 3) := by decide +kernel
theorem dX1_turnRound_47 : decode cX1_turnRound 47 = .ok (.aload_n 0, 1) := by decide +kernel
theorem dX1_turnRound_48 : decode cX1_turnRound 48 = .ok (.getfield 38, 3) := by decide +kernel
theorem dX1_turnRound_51 : decode cX1_turnRound 51 = .ok (.iload 4, 2) := by decide +kernel
theorem dX1_turnRound_53 : decode cX1_turnRound 53 = .ok (.aload_n 0, 1) := by decide +kernel
theorem dX1_turnRound_54 : decode cX1_turnRound 54 = .ok (.getfield 38, 3) := by decide +kernel
theorem dX1_turnRound_57 : decode cX1_turnRound 57 = .ok (.iload 4, 2) := by decide +kernel
theorem dX1_turnRound_59 : decode cX1_turnRound 59 = .ok (.iconst 1, 1) := by decide +kernel
theorem dX1_turnRound_60 : decode cX1_turnRound 60 = .ok (.isub, 1) := by decide +kernel
theorem dX1_turnRound_61 : decode cX1_turnRound 61 = .ok (.iaload, 1) := by decide +kernel
theorem dX1_turnRound_62 : decode cX1_turnRound 62 = .ok (.iastore, 1) := by decide +kernel
theorem dX1_turnRound_63 : decode cX1_turnRound 63 = .ok (.iinc 4 (-1), 3) := by decide +kernel
theorem dX1_turnRound_66 : decode cX1_turnRound 66 = .ok (.goto (-42), 3) := by decide +kernel
theorem dX1_turnRound_69 : decode cX1_turnRound 69 = .ok (.aload_n 0, 1) := by decide +kernel
theorem dX1_turnRound_70 : decode cX1_turnRound 70 = .ok (.getfield 38, 3) := by decide +kernel
theorem dX1_turnRound_73 : decode cX1_turnRound 73 = .ok (.iload 4, 2) := by decide +kernel
theorem dX1_turnRound_75 : decode cX1_turnRound 75 = .ok (.iload_n 3, 1) := by decide +kernel
theorem dX1_turnRound_76 : decode cX1_turnRound 76 = .ok (.iastore, 1) := by decide +kernel
theorem dX1_turnRound_77 : decode cX1_turnRound 77 = .ok (.iinc 2 1, 3) := by decide +kernel
theorem dX1_turnRound_80 : decode cX1_turnRound 80 = .ok (.iinc 3 1, 3) := by decide +kernel
theorem dX1_turnRound_83 : decode cX1_turnRound 83 = .ok (.goto (-79), 3) := by decide +kernel
theorem dX1_turnRound_86 : decode cX1_turnRound 86 = .ok (.iload_n 2, 1) := by decide +kernel
theorem dX1_turnRound_87 : decode cX1_turnRound 87 = .ok (.ireturn, 1) := by decide +kernel
set_option maxRecDepth 20000 in
theorem ggX1_isAhead_X1_isInSecondHalf : GoodIn wsX1_isAhead wsX1_isInSecondHalf := goodIn_r _ [5, 6, 7, 8, 4, 9, 10, 11, 12, 13, 14, 15, 31, 32, 33, 34, 35, 36, 37, 38, 39, 40, 41] (by decide +kernel) (by decide +kernel)
set_option maxRecDepth 20000 in
theorem gX1_isAhead_X1_isInSecondHalf : GoodIn wsX1_isAhead (wsV RX1 114 RX1 yX1_isInSecondHalf wsX1_isInSecondHalf) := goodIn_app (goodIn_of _ (by decide +kernel)) ggX1_isAhead_X1_isInSecondHalf
set_option maxRecDepth 20000 in
theorem ggX1_isAhead_X1_turnLeft : GoodIn wsX1_isAhead wsX1_turnLeft := goodIn_r _ [19, 11, 12, 13, 4, 14, 15, 6, 7, 8, 9, 10, 31, 32, 33, 34, 35, 36, 37, 38, 39, 40, 41] (by decide +kernel) (by decide +kernel)
set_option maxRecDepth 20000 in
theorem gX1_isAhead_X1_turnLeft : GoodIn wsX1_isAhead (wsV RX1 101 RX1 yX1_turnLeft wsX1_turnLeft) := goodIn_app (goodIn_of _ (by decide +kernel)) ggX1_isAhead_X1_turnLeft
set_option maxRecDepth 20000 in
theorem ggX1_isAhead_X1_reach : GoodIn wsX1_isAhead wsX1_reach := goodIn_r _ [23, 24, 25, 26, 27, 28, 29, 30, 11, 12, 13, 4, 14, 15, 6, 7, 8, 9, 10, 31, 32, 33, 34, 35, 36, 37, 38, 39, 40, 41] (by decide +kernel) (by decide +kernel)
set_option maxRecDepth 20000 in
theorem gX1_isAhead_X1_reach : GoodIn wsX1_isAhead (wsV RX1 95 RX1 yX1_reach wsX1_reach) := goodIn_app (goodIn_of _ (by decide +kernel)) ggX1_isAhead_X1_reach
theorem dX1_isAhead_0 : decode cX1_isAhead 0 = .ok (.aload_n 0, 1) := by decide +kernel
theorem dX1_isAhead_1 : decode cX1_isAhead 1 = .ok (.iload_n 1, 1) := by decide +kernel
theorem dX1_isAhead_2 : decode cX1_isAhead 2 = .ok (.iload_n 2, 1) := by decide +kernel
theorem dX1_isAhead_3 : decode cX1_isAhead 3 = .ok (.invokevirtual 114, 3) := by decide +kernel
theorem dX1_isAhead_6 : decode cX1_isAhead 6 = .ok (.istore 4, 2) := by decide +kernel
theorem dX1_isAhead_8 : decode cX1_isAhead 8 = .ok (.iload 4, 2) := by decide +kernel
theorem dX1_isAhead_10 : decode cX1_isAhead 10 = .ok (.aload_n 0, 1) := by decide +kernel
theorem dX1_isAhead_11 : decode cX1_isAhead 11 = .ok (.iload_n 1, 1) := by decide +kernel
theorem dX1_isAhead_12 : decode cX1_isAhead 12 = .ok (.iload_n 3, 1) := by decide +kernel
theorem dX1_isAhead_13 : decode cX1_isAhead 13 = .ok (.invokevirtual 114, 3) := by decide +kernel
theorem dX1_isAhead_16 : decode cX1_isAhead 16 = .ok (.if_icmp .eq 14, 3) := by decide +kernel
theorem dX1_isAhead_19 : decode cX1_isAhead 19 = .ok (.iload 4, 2) := by decide +kernel
theorem dX1_isAhead_21 : decode cX1_isAhead 21 = .ok (.ifCond .ne 7, 3) := by decide +kernel
theorem dX1_isAhead_24 : decode cX1_isAhead 24 = .ok (.iconst 1, 1) := by decide +kernel
theorem dX1_isAhead_25 : decode cX1_isAhead 25 = .ok (.goto 4, 3) := by decide +kernel
theorem dX1_isAhead_28 : decode cX1_isAhead 28 = .ok (.iconst 0, 1) := by decide +kernel
theorem dX1_isAhead_29 : decode cX1_isAhead 29 = .ok (.ireturn, 1) := by decide +kernel
theorem dX1_isAhead_30 : decode cX1_isAhead 30 = .ok (.aload_n 0, 1) := by decide +kernel
theorem dX1_isAhead_31 : decode cX1_isAhead 31 = .ok (.iload_n 1, 1) := by decide +kernel
theorem dX1_isAhead_32 : decode cX1_isAhead 32 = .ok (.iload_n 2, 1) := by decide +kernel
theorem dX1_isAhead_33 : decode cX1_isAhead 33 = .ok (.iload_n 3, 1) := by decide +kernel
theorem dX1_isAhead_34 : decode cX1_isAhead 34 = .ok (.invokevirtual 101, 3) := by decide +kernel
theorem dX1_isAhead_37 : decode cX1_isAhead 37 = .ok (.istore 5, 2) := by decide +kernel
theorem dX1_isAhead_39 : decode cX1_isAhead 39 = .ok (.iload 5, 2) := by decide +kernel
theorem dX1_isAhead_41 : decode cX1_isAhead 41 = .ok (.ifCond .gt 23, 3) := by decide +kernel
theorem dX1_isAhead_44 : decode cX1_isAhead 44 = .ok (.iload 5, 2) := by decide +kernel
theorem dX1_isAhead_46 : decode cX1_isAhead 46 = .ok (.ifCond .ne 22, 3) := by decide +kernel
theorem dX1_isAhead_49 : decode cX1_isAhead 49 = .ok (.aload_n 0, 1) := by decide +kernel
theorem dX1_isAhead_50 : decode cX1_isAhead 50 = .ok (.iload_n 1, 1) := by decide +kernel
theorem dX1_isAhead_51 : decode cX1_isAhead 51 = .ok (.iload_n 2, 1) := by decide +kernel
theorem dX1_isAhead_52 : decode cX1_isAhead 52 = .ok (.invokevirtual 95, 3) := by decide +kernel
theorem dX1_isAhead_55 : decode cX1_isAhead 55 = .ok (.aload_n 0, 1) := by decide +kernel
theorem dX1_isAhead_56 : decode cX1_isAhead 56 = .ok (.iload_n 1, 1) := by decide +kernel
theorem dX1_isAhead_57 : decode cX1_isAhead 57 = .ok (.iload_n 3, 1) := by decide +kernel
theorem dX1_isAhead_58 : decode cX1_isAhead 58 = .ok (.invokevirtual 95, 3) := by decide +kernel
theorem dX1_isAhead_61 : decode cX1_isAhead 61 = .ok (.if_icmp .ge 7, 3) := by decide +kernel
theorem dX1_isAhead_64 : decode cX1_isAhead 64 = .ok (.iconst 1, 1) := by decide +kernel
theorem dX1_isAhead_65 : decode cX1_isAhead 65 = .ok (.goto 4, 3) := by decide +kernel
theorem dX1_isAhead_68 : decode cX1_isAhead 68 = .ok (.iconst 0, 1) := by decide +kernel
theorem dX1_isAhead_69 : decode cX1_isAhead 69 = .ok (.ireturn, 1) := by decide +kernel
set_option maxRecDepth 20000 in
theorem ggX1_isInSecondHalf_X1_upOf : GoodIn wsX1_isInSecondHalf wsX1_upOf := goodIn_r _ [5, 6, 12, 13, 14, 15, 16, 17, 18, 19, 20, 21, 22] (by decide +kernel) (by decide +kernel)
set_option maxRecDepth 20000 in
theorem gX1_isInSecondHalf_X1_upOf : GoodIn wsX1_isInSecondHalf (wsV RX1 82 RX1 yX1_upOf wsX1_upOf) := goodIn_app (goodIn_of _ (by decide +kernel)) ggX1_isInSecondHalf_X1_upOf
set_option maxRecDepth 20000 in
theorem ggX1_isInSecondHalf_X1_rightOf : GoodIn wsX1_isInSecondHalf wsX1_rightOf := goodIn_r _ [10, 11, 12, 13, 14, 15, 16, 17, 18, 19, 20, 21, 22] (by decide +kernel) (by decide +kernel)
set_option maxRecDepth 20000 in
theorem gX1_isInSecondHalf_X1_rightOf : GoodIn wsX1_isInSecondHalf (wsV RX1 73 RX1 yX1_rightOf wsX1_rightOf) := goodIn_app (goodIn_of _ (by decide +kernel)) ggX1_isInSecondHalf_X1_rightOf
theorem dX1_isInSecondHalf_0 : decode cX1_isInSecondHalf 0 = .ok (.aload_n 0, 1) := by decide +kernel
theorem dX1_isInSecondHalf_1 : decode cX1_isInSecondHalf 1 = .ok (.iload_n 1, 1) := by decide +kernel
theorem dX1_isInSecondHalf_2 : decode cX1_isInSecondHalf 2 = .ok (.iload_n 2, 1) := by decide +kernel
theorem dX1_isInSecondHalf_3 : decode cX1_isInSecondHalf 3 = .ok (.invokevirtual 82, 3) := by decide +kernel
theorem dX1_isInSecondHalf_6 : decode cX1_isInSecondHalf 6 = .ok (.istore_n 3, 1) := by decide +kernel
theorem dX1_isInSecondHalf_7 : decode cX1_isInSecondHalf 7 = .ok (.iload_n 3, 1) := by decide +kernel
theorem dX1_isInSecondHalf_8 : decode cX1_isInSecondHalf 8 = .ok (.ifCond .lt 16, 3) := by decide +kernel
theorem dX1_isInSecondHalf_11 : decode cX1_isInSecondHalf 11 = .ok (.iload_n 3, 1) := by decide +kernel
theorem dX1_isInSecondHalf_12 : decode cX1_isInSecondHalf 12 = .ok (.ifCond .ne 16, 3) := by decide +kernel
theorem dX1_isInSecondHalf_15 : decode cX1_isInSecondHalf 15 = .ok (.aload_n 0, 1) := by decide +kernel
theorem dX1_isInSecondHalf_16 : decode cX1_isInSecondHalf 16 = .ok (.iload_n 1, 1) := by decide +kernel
theorem dX1_isInSecondHalf_17 : decode cX1_isInSecondHalf 17 = .ok (.iload_n 2, 1) := by decide +kernel
theorem dX1_isInSecondHalf_18 : decode cX1_isInSecondHalf 18 = .ok (.invokevirtual 73, 3) := by decide +kernel
theorem dX1_isInSecondHalf_21 : decode cX1_isInSecondHalf 21 = .ok (.ifCond .ge 7, 3) := by decide +kernel
theorem dX1_isInSecondHalf_24 : decode cX1_isInSecondHalf 24 = .ok (.iconst 1, 1) := by decide +kernel
theorem dX1_isInSecondHalf_25 : decode cX1_isInSecondHalf 25 = .ok (.goto 4, 3) := by decide +kernel
theorem dX1_isInSecondHalf_28 : decode cX1_isInSecondHalf 28 = .ok (.iconst 0, 1) := by decide +kernel
theorem dX1_isInSecondHalf_29 : decode cX1_isInSecondHalf 29 = .ok (.ireturn, 1) := by decide +kernel
theorem dX2_init_0 : decode cX2_init 0 = .ok (.aload_n 0, 1) := by decide +kernel
theorem dX2_init_1 : decode cX2_init 1 = .ok (.invokespecial 3, 3) := by decide +kernel
theorem dX2_init_4 : decode cX2_init 4 = .ok (.aload_n 0, 1) := by decide +kernel
theorem dX2_init_5 : decode cX2_init 5 = .ok (.bipush 8, 2) := by decide +kernel
theorem dX2_init_7 : decode cX2_init 7 = .ok (.newarray .int, 2) := by decide +kernel
theorem dX2_init_9 : decode cX2_init 9 = .ok (.putfield 9, 3) := by decide +kernel
theorem dX2_init_12 : decode cX2_init 12 = .ok (.aload_n 0, 1) := by decide +kernel
theorem dX2_init_13 : decode cX2_init 13 = .ok (.bipush 10, 2) := by decide +kernel
theorem dX2_init_15 : decode cX2_init 15 = .ok (.newarray .int, 2) := by decide +kernel
theorem dX2_init_17 : decode cX2_init 17 = .ok (.putfield 15, 3) := by decide +kernel
theorem dX2_init_20 : decode cX2_init 20 = .ok (.return_, 1) := by decide +kernel
set_option maxRecDepth 20000 in
theorem ggX2_most_X2_findsPeak : GoodIn wsX2_most wsX2_findsPeak := goodIn_r _ [8, 3, 2, 1, 4, 5, 6, 7, 9, 10, 11] (by decide +kernel) (by decide +kernel)
set_option maxRecDepth 20000 in
theorem gX2_most_X2_findsPeak : GoodIn wsX2_most (wsV RX2 22 RX2 yX2_findsPeak wsX2_findsPeak) := goodIn_app (goodIn_of _ (by decide +kernel)) ggX2_most_X2_findsPeak
theorem dX2_most_0 : decode cX2_most 0 = .ok (.iconst 0, 1) := by decide +kernel
theorem dX2_most_1 : decode cX2_most 1 = .ok (.istore_n 3, 1) := by decide +kernel
theorem dX2_most_2 : decode cX2_most 2 = .ok (.iload_n 3, 1) := by decide +kernel
theorem dX2_most_3 : decode cX2_most 3 = .ok (.bipush 10, 2) := by decide +kernel
theorem dX2_most_5 : decode cX2_most 5 = .ok (.if_icmp .ge 17, 3) := by decide +kernel
theorem dX2_most_8 : decode cX2_most 8 = .ok (.aload_n 0, 1) := by decide +kernel
theorem dX2_most_9 : decode cX2_most 9 = .ok (.getfield 15, 3) := by decide +kernel
theorem dX2_most_12 : decode cX2_most 12 = .ok (.iload_n 3, 1) := by decide +kernel
theorem dX2_most_13 : decode cX2_most 13 = .ok (.bipush (-9), 2) := by decide +kernel
theorem dX2_most_15 : decode cX2_most 15 = .ok (.iastore, 1) := by decide +kernel
theorem dX2_most_16 : decode cX2_most 16 = .ok (.iinc 3 1, 3) := by decide +kernel
theorem dX2_most_19 : decode cX2_most 19 = .ok (.goto (-17), 3) := by decide +kernel
theorem dX2_most_22 : decode cX2_most 22 = .ok (.iconst 0, 1) := by decide +kernel
theorem dX2_most_23 : decode cX2_most 23 = .ok (.istore_n 3, 1) := by decide +kernel
theorem dX2_most_24 : decode cX2_most 24 = .ok (.iconst 0, 1) := by decide +kernel
theorem dX2_most_25 : decode cX2_most 25 = .ok (.istore 4, 2) := by decide +kernel
theorem dX2_most_27 : decode cX2_most 27 = .ok (.iload 4, 2) := by decide +kernel
theorem dX2_most_29 : decode cX2_most 29 = .ok (.iload_n 1, 1) := by decide +kernel
theorem dX2_most_30 : decode cX2_most 30 = .ok (.if_icmp .ge 50, 3) := by decide +kernel
theorem dX2_most_33 : decode cX2_most 33 = .ok (.iload 4, 2) := by decide +kernel
theorem dX2_most_35 : decode cX2_most 35 = .ok (.bipush 8, 2) := by decide +kernel
theorem dX2_most_37 : decode cX2_most 37 = .ok (.if_icmp .ge 43, 3) := by decide +kernel
theorem dX2_most_40 : decode cX2_most 40 = .ok (.aload_n 0, 1) := by decide +kernel
theorem dX2_most_41 : decode cX2_most 41 = .ok (.iconst 0, 1) := by decide +kernel
theorem dX2_most_42 : decode cX2_most 42 = .ok (.putfield 18, 3) := by decide +kernel
theorem dX2_most_45 : decode cX2_most 45 = .ok (.iload 4, 2) := by decide +kernel
theorem dX2_most_47 : decode cX2_most 47 = .ok (.iload_n 2, 1) := by decide +kernel
theorem dX2_most_48 : decode cX2_most 48 = .ok (.if_icmp .eq 26, 3) := by decide +kernel
theorem dX2_most_51 : decode cX2_most 51 = .ok (.aload_n 0, 1) := by decide +kernel
theorem dX2_most_52 : decode cX2_most 52 = .ok (.getfield 9, 3) := by decide +kernel
theorem dX2_most_55 : decode cX2_most 55 = .ok (.iload 4, 2) := by decide +kernel
theorem dX2_most_57 : decode cX2_most 57 = .ok (.iaload, 1) := by decide +kernel
theorem dX2_most_58 : decode cX2_most 58 = .ok (.ifCond .eq 16, 3) := by decide +kernel
theorem dX2_most_61 : decode cX2_most 61 = .ok (.aload_n 0, 1) := by decide +kernel
theorem dX2_most_62 : decode cX2_most 62 = .ok (.iload 4, 2) := by decide +kernel
theorem dX2_most_64 : decode cX2_most 64 = .ok (.iconst 0, 1) := by decide +kernel
theorem dX2_most_65 : decode cX2_most 65 = .ok (.invokevirtual 22, 3) := by decide +kernel
theorem dX2_most_68 : decode cX2_most 68 = .ok (.ifCond .eq 6, 3) := by decide +kernel
theorem dX2_most_71 : decode cX2_most 71 = .ok (.iinc 3 1, 3) := by decide +kernel
theorem dX2_most_74 : decode cX2_most 74 = .ok (.iinc 4 1, 3) := by decide +kernel
theorem dX2_most_77 : decode cX2_most 77 = .ok (.goto (-50), 3) := by decide +kernel
theorem dX2_most_80 : decode cX2_most 80 = .ok (.iload_n 3, 1) := by decide +kernel
theorem dX2_most_81 : decode cX2_most 81 = .ok (.ireturn, 1) := by decide +kernel
set_option maxRecDepth 20000 in
theorem ggX2_findsPeak_X2_findsPeak : GoodIn wsX2_findsPeak wsX2_findsPeak := goodIn_r _ [0, 1, 2, 3, 4, 5, 6, 7, 8, 9, 10] (by decide +kernel) (by decide +kernel)
set_option maxRecDepth 20000 in
theorem gX2_findsPeak_X2_findsPeak : GoodIn wsX2_findsPeak (wsV RX2 22 RX2 yX2_findsPeak wsX2_findsPeak) := goodIn_app (goodIn_of _ (by decide +kernel)) ggX2_findsPeak_X2_findsPeak
theorem dX2_findsPeak_0 : decode cX2_findsPeak 0 = .ok (.iload_n 1, 1) := by decide +kernel
theorem dX2_findsPeak_1 : decode cX2_findsPeak 1 = .ok (.ifCond .lt 15, 3) := by decide +kernel
theorem dX2_findsPeak_4 : decode cX2_findsPeak 4 = .ok (.iload_n 1, 1) := by decide +kernel
theorem dX2_findsPeak_5 : decode cX2_findsPeak 5 = .ok (.bipush 8, 2) := by decide +kernel
theorem dX2_findsPeak_7 : decode cX2_findsPeak 7 = .ok (.if_icmp .ge 9, 3) := by decide +kernel
theorem dX2_findsPeak_10 : decode cX2_findsPeak 10 = .ok (.iload_n 2, 1) := by decide +kernel
theorem dX2_findsPeak_11 : decode cX2_findsPeak 11 = .ok (.bipush 10, 2) := by decide +kernel
theorem dX2_findsPeak_13 : decode cX2_findsPeak 13 = .ok (.if_icmp .le 5, 3) := by decide +kernel
theorem dX2_findsPeak_16 : decode cX2_findsPeak 16 = .ok (.iconst 0, 1) := by decide +kernel
theorem dX2_findsPeak_17 : decode cX2_findsPeak 17 = .ok (.ireturn, 1) := by decide +kernel
theorem dX2_findsPeak_18 : decode cX2_findsPeak 18 = .ok (.iconst 0, 1) := by decide +kernel
theorem dX2_findsPeak_19 : decode cX2_findsPeak 19 = .ok (.istore_n 3, 1) := by decide +kernel
theorem dX2_findsPeak_20 : decode cX2_findsPeak 20 = .ok (.iload_n 3, 1) := by decide +kernel
theorem dX2_findsPeak_21 : decode cX2_findsPeak 21 = .ok (.bipush 10, 2) := by decide +kernel
theorem dX2_findsPeak_23 : decode cX2_findsPeak 23 = .ok (.if_icmp .ge 80, 3) := by decide +kernel
theorem dX2_findsPeak_26 : decode cX2_findsPeak 26 = .ok (.iconst 1, 1) := by decide +kernel
theorem dX2_findsPeak_27 : decode cX2_findsPeak 27 = .ok (.iload_n 3, 1) := by decide +kernel
theorem dX2_findsPeak_28 : decode cX2_findsPeak 28 = .ok (.ishl, 1) := by decide +kernel
theorem dX2_findsPeak_29 : decode cX2_findsPeak 29 = .ok (.istore 4, 2) := by decide +kernel
theorem dX2_findsPeak_31 : decode cX2_findsPeak 31 = .ok (.aload_n 0, 1) := by decide +kernel
theorem dX2_findsPeak_32 : decode cX2_findsPeak 32 = .ok (.getfield 9, 3) := by decide +kernel
theorem dX2_findsPeak_35 : decode cX2_findsPeak 35 = .ok (.iload_n 1, 1) := by decide +kernel
theorem dX2_findsPeak_36 : decode cX2_findsPeak 36 = .ok (.iaload, 1) := by decide +kernel
theorem dX2_findsPeak_37 : decode cX2_findsPeak 37 = .ok (.aload_n 0, 1) := by decide +kernel
theorem dX2_findsPeak_38 : decode cX2_findsPeak 38 = .ok (.getfield 18, 3) := by decide +kernel
theorem dX2_findsPeak_41 : decode cX2_findsPeak 41 = .ok (.iconst (-1), 1) := by decide +kernel
theorem dX2_findsPeak_42 : decode cX2_findsPeak 42 = .ok (.ixor, 1) := by decide +kernel
theorem dX2_findsPeak_43 : decode cX2_findsPeak 43 = .ok (.iand, 1) := by decide +kernel
theorem dX2_findsPeak_44 : decode cX2_findsPeak 44 = .ok (.iload 4, 2) := by decide +kernel
theorem dX2_findsPeak_46 : decode cX2_findsPeak 46 = .ok (.iand, 1) := by decide +kernel
theorem dX2_findsPeak_47 : decode cX2_findsPeak 47 = .ok (.ifCond .eq 50, 3) := by decide +kernel
theorem dX2_findsPeak_50 : decode cX2_findsPeak 50 = .ok (.aload_n 0, 1) := by decide +kernel
theorem dX2_findsPeak_51 : decode cX2_findsPeak 51 = .ok (.dup, 1) := by decide +kernel
theorem dX2_findsPeak_52 : decode cX2_findsPeak 52 = .ok (.getfield 18, 3) := by decide +kernel
theorem dX2_findsPeak_55 : decode cX2_findsPeak 55 = .ok (.iload 4, 2) := by decide +kernel
theorem dX2_findsPeak_57 : decode cX2_findsPeak 57 = .ok (.ior, 1) := by decide +kernel
theorem dX2_findsPeak_58 : decode cX2_findsPeak 58 = .ok (.putfield 18, 3) := by decide +kernel
theorem dX2_findsPeak_61 : decode cX2_findsPeak 61 = .ok (.aload_n 0, 1) := by decide +kernel
theorem dX2_findsPeak_62 : decode cX2_findsPeak 62 = .ok (.getfield 15, 3) := by decide +kernel
theorem dX2_findsPeak_65 : decode cX2_findsPeak 65 = .ok (.iload_n 3, 1) := by decide +kernel
theorem dX2_findsPeak_66 : decode cX2_findsPeak 66 = .ok (.iaload, 1) := by decide +kernel
theorem dX2_findsPeak_67 : decode cX2_findsPeak 67 = .ok (.bipush (-9), 2) := by decide +kernel
theorem dX2_findsPeak_69 : decode cX2_findsPeak 69 = .ok (.if_icmp .eq 19, 3) := by decide +kernel
theorem dX2_findsPeak_72 : decode cX2_findsPeak 72 = .ok (.aload_n 0, 1) := by decide +kernel
theorem dX2_findsPeak_73 : decode cX2_findsPeak 73 = .ok (.aload_n 0, 1) := by decide +kernel
theorem dX2_findsPeak_74 : decode cX2_findsPeak 74 = .ok (.getfield 15, 3) := by decide +kernel
theorem dX2_findsPeak_77 : decode cX2_findsPeak 77 = .ok (.iload_n 3, 1) := by decide +kernel
theorem dX2_findsPeak_78 : decode cX2_findsPeak 78 = .ok (.iaload, 1) := by decide +kernel
theorem dX2_findsPeak_79 : decode cX2_findsPeak 79 = .ok (.iload_n 2, 1) := by decide +kernel
theorem dX2_findsPeak_80 : decode cX2_findsPeak 80 = .ok (.iconst 1, 1) := by decide +kernel
theorem dX2_findsPeak_81 : decode cX2_findsPeak 81 = .ok (.iadd, 1) := by decide +kernel
theorem dX2_findsPeak_82 : decode cX2_findsPeak 82 = .ok (.invokevirtual 22, 3) := by decide +kernel
theorem dX2_findsPeak_85 : decode cX2_findsPeak 85 = .ok (.ifCond .eq 12, 3) := by decide +kernel
theorem dX2_findsPeak_88 : decode cX2_findsPeak 88 = .ok (.aload_n 0, 1) := by decide +kernel
theorem dX2_findsPeak_89 : decode cX2_findsPeak 89 = .ok (.getfield 15, 3) := by decide +kernel
theorem dX2_findsPeak_92 : decode cX2_findsPeak 92 = .ok (.iload_n 3, 1) := by decide +kernel
theorem dX2_findsPeak_93 : decode cX2_findsPeak 93 = .ok (.iload_n 1, 1) := by decide +kernel
theorem dX2_findsPeak_94 : decode cX2_findsPeak 94 = .ok (.iastore, 1) := by decide +kernel
theorem dX2_findsPeak_95 : decode cX2_findsPeak 95 = .ok (.iconst 1, 1) := by decide +kernel
theorem dX2_findsPeak_96 : decode cX2_findsPeak 96 = .ok (.ireturn, 1) := by decide +kernel
theorem dX2_findsPeak_97 : decode cX2_findsPeak 97 = .ok (.iinc 3 1, 3) := by decide +kernel
theorem dX2_findsPeak_100 : decode cX2_findsPeak 100 = .ok (.goto (-80), 3) := by decide +kernel
theorem dX2_findsPeak_103 : decode cX2_findsPeak 103 = .ok (.iconst 0, 1) := by decide +kernel
theorem dX2_findsPeak_104 : decode cX2_findsPeak 104 = .ok (.ireturn, 1) := by decide +kernel
theorem dX3_init_0 : decode cX3_init 0 = .ok (.aload_n 0, 1) := by decide +kernel
theorem dX3_init_1 : decode cX3_init 1 = .ok (.invokespecial 3, 3) := by decide +kernel
theorem dX3_init_4 : decode cX3_init 4 = .ok (.aload_n 0, 1) := by decide +kernel
theorem dX3_init_5 : decode cX3_init 5 = .ok (.bipush 8, 2) := by decide +kernel
theorem dX3_init_7 : decode cX3_init 7 = .ok (.newarray .int, 2) := by decide +kernel
theorem dX3_init_9 : decode cX3_init 9 = .ok (.putfield 9, 3) := by decide +kernel
theorem dX3_init_12 : decode cX3_init 12 = .ok (.aload_n 0, 1) := by decide +kernel
theorem dX3_init_13 : decode cX3_init 13 = .ok (.bipush 8, 2) := by decide +kernel
theorem dX3_init_15 : decode cX3_init 15 = .ok (.newarray .int, 2) := by decide +kernel
theorem dX3_init_17 : decode cX3_init 17 = .ok (.putfield 15, 3) := by decide +kernel
theorem dX3_init_20 : decode cX3_init 20 = .ok (.return_, 1) := by decide +kernel
theorem dX3_has_0 : decode cX3_has 0 = .ok (.iload_n 1, 1) := by decide +kernel
theorem dX3_has_1 : decode cX3_has 1 = .ok (.ifCond .lt 15, 3) := by decide +kernel
theorem dX3_has_4 : decode cX3_has 4 = .ok (.iload_n 1, 1) := by decide +kernel
theorem dX3_has_5 : decode cX3_has 5 = .ok (.aload_n 0, 1) := by decide +kernel
theorem dX3_has_6 : decode cX3_has 6 = .ok (.getfield 18, 3) := by decide +kernel
theorem dX3_has_9 : decode cX3_has 9 = .ok (.if_icmp .ge 7, 3) := by decide +kernel
theorem dX3_has_12 : decode cX3_has 12 = .ok (.iconst 1, 1) := by decide +kernel
theorem dX3_has_13 : decode cX3_has 13 = .ok (.goto 4, 3) := by decide +kernel
theorem dX3_has_16 : decode cX3_has 16 = .ok (.iconst 0, 1) := by decide +kernel
theorem dX3_has_17 : decode cX3_has 17 = .ok (.ireturn, 1) := by decide +kernel
theorem dX3_append_0 : decode cX3_append 0 = .ok (.aload_n 0, 1) := by decide +kernel
theorem dX3_append_1 : decode cX3_append 1 = .ok (.getfield 18, 3) := by decide +kernel
theorem dX3_append_4 : decode cX3_append 4 = .ok (.bipush 8, 2) := by decide +kernel
theorem dX3_append_6 : decode cX3_append 6 = .ok (.if_icmp .ge 33, 3) := by decide +kernel
theorem dX3_append_9 : decode cX3_append 9 = .ok (.aload_n 0, 1) := by decide +kernel
theorem dX3_append_10 : decode cX3_append 10 = .ok (.getfield 9, 3) := by decide +kernel
theorem dX3_append_13 : decode cX3_append 13 = .ok (.aload_n 0, 1) := by decide +kernel
theorem dX3_append_14 : decode cX3_append 14 = .ok (.getfield 18, 3) := by decide +kernel
theorem dX3_append_17 : decode cX3_append 17 = .ok (.iload_n 1, 1) := by decide +kernel
theorem dX3_append_18 : decode cX3_append 18 = .ok (.iastore, 1) := by decide +kernel
theorem dX3_append_19 : decode cX3_append 19 = .ok (.aload_n 0, 1) := by decide +kernel
theorem dX3_append_20 : decode cX3_append 20 = .ok (.getfield 15, 3) := by decide +kernel
theorem dX3_append_23 : decode cX3_append 23 = .ok (.aload_n 0, 1) := by decide +kernel
theorem dX3_append_24 : decode cX3_append 24 = .ok (.getfield 18, 3) := by decide +kernel
theorem dX3_append_27 : decode cX3_append 27 = .ok (.iload_n 2, 1) := by decide +kernel
theorem dX3_append_28 : decode cX3_append 28 = .ok (.iastore, 1) := by decide +kernel
theorem dX3_append_29 : decode cX3_append 29 = .ok (.aload_n 0, 1) := by decide +kernel
theorem dX3_append_30 : decode cX3_append 30 = .ok (.dup, 1) := by decide +kernel
theorem dX3_append_31 : decode cX3_append 31 = .ok (.getfield 18, 3) := by decide +kernel
theorem dX3_append_34 : decode cX3_append 34 = .ok (.iconst 1, 1) := by decide +kernel
theorem dX3_append_35 : decode cX3_append 35 = .ok (.iadd, 1) := by decide +kernel
theorem dX3_append_36 : decode cX3_append 36 = .ok (.putfield 18, 3) := by decide +kernel
theorem dX3_append_39 : decode cX3_append 39 = .ok (.return_, 1) := by decide +kernel
set_option maxRecDepth 20000 in
theorem ggX3_remove_X3_has : GoodIn wsX3_remove wsX3_has := goodIn_r _ [8, 1, 9, 10, 11] (by decide +kernel) (by decide +kernel)
set_option maxRecDepth 20000 in
theorem gX3_remove_X3_has : GoodIn wsX3_remove (wsV RX3 22 RX3 yX3_has wsX3_has) := goodIn_app (goodIn_of _ (by decide +kernel)) ggX3_remove_X3_has
theorem dX3_remove_0 : decode cX3_remove 0 = .ok (.aload_n 0, 1) := by decide +kernel
theorem dX3_remove_1 : decode cX3_remove 1 = .ok (.iload_n 1, 1) := by decide +kernel
theorem dX3_remove_2 : decode cX3_remove 2 = .ok (.invokevirtual 22, 3) := by decide +kernel
theorem dX3_remove_5 : decode cX3_remove 5 = .ok (.ifCond .eq 57, 3) := by decide +kernel
theorem dX3_remove_8 : decode cX3_remove 8 = .ok (.aload_n 0, 1) := by decide +kernel
theorem dX3_remove_9 : decode cX3_remove 9 = .ok (.dup, 1) := by decide +kernel
theorem dX3_remove_10 : decode cX3_remove 10 = .ok (.getfield 18, 3) := by decide +kernel
theorem dX3_remove_13 : decode cX3_remove 13 = .ok (.iconst 1, 1) := by decide +kernel
theorem dX3_remove_14 : decode cX3_remove 14 = .ok (.isub, 1) := by decide +kernel
theorem dX3_remove_15 : decode cX3_remove 15 = .ok (.putfield 18, 3) := by decide +kernel
theorem dX3_remove_18 : decode cX3_remove 18 = .ok (.iload_n 1, 1) := by decide +kernel
theorem dX3_remove_19 : decode cX3_remove 19 = .ok (.istore_n 2, 1) := by decide +kernel
theorem dX3_remove_20 : decode cX3_remove 20 = .ok (.iload_n 2, 1) := by decide +kernel
theorem dX3_remove_21 : decode cX3_remove 21 = .ok (.aload_n 0, 1) := by decide +kernel
theorem dX3_remove_22 : decode cX3_remove 22 = .ok (.getfield 18, 3) := by decide +kernel
theorem dX3_remove_25 : decode cX3_remove 25 = .ok (.if_icmp .ge 37, 3) := by decide +kernel
theorem dX3_remove_28 : decode cX3_remove 28 = .ok (.aload_n 0, 1) := by decide +kernel
theorem dX3_remove_29 : decode cX3_remove 29 = .ok (.getfield 9, 3) := by decide +kernel
theorem dX3_remove_32 : decode cX3_remove 32 = .ok (.iload_n 2, 1) := by decide +kernel
theorem dX3_remove_33 : decode cX3_remove 33 = .ok (.aload_n 0, 1) := by decide +kernel
theorem dX3_remove_34 : decode cX3_remove 34 = .ok (.getfield 9, 3) := by decide +kernel
theorem dX3_remove_37 : decode cX3_remove 37 = .ok (.iload_n 2, 1) := by decide +kernel
theorem dX3_remove_38 : decode cX3_remove 38 = .ok (.iconst 1, 1) := by decide +kernel
theorem dX3_remove_39 : decode cX3_remove 39 = .ok (.iadd, 1) := by decide +kernel
theorem dX3_remove_40 : decode cX3_remove 40 = .ok (.iaload, 1) := by decide +kernel
theorem dX3_remove_41 : decode cX3_remove 41 = .ok (.iastore, 1) := by decide +kernel
theorem dX3_remove_42 : decode cX3_remove 42 = .ok (.aload_n 0, 1) := by decide +kernel
theorem dX3_remove_43 : decode cX3_remove 43 = .ok (.getfield 15, 3) := by decide +kernel
theorem dX3_remove_46 : decode cX3_remove 46 = .ok (.iload_n 2, 1) := by decide +kernel
theorem dX3_remove_47 : decode cX3_remove 47 = .ok (.aload_n 0, 1) := by decide +kernel
theorem dX3_remove_48 : decode cX3_remove 48 = .ok (.getfield 15, 3) := by decide +kernel
theorem dX3_remove_51 : decode cX3_remove 51 = .ok (.iload_n 2, 1) := by decide +kernel
theorem dX3_remove_52 : decode cX3_remove 52 = .ok (.iconst 1, 1) := by decide +kernel
theorem dX3_remove_53 : decode cX3_remove 53 = .ok (.iadd, 1) := by decide +kernel
theorem dX3_remove_54 : decode cX3_remove 54 = .ok (.iaload, 1) := by decide +kernel
theorem dX3_remove_55 : decode cX3_remove 55 = .ok (.iastore, 1) := by decide +kernel
theorem dX3_remove_56 : decode cX3_remove 56 = .ok (.iinc 2 1, 3) := by decide +kernel
theorem dX3_remove_59 : decode cX3_remove 59 = .ok (.goto (-39), 3) := by decide +kernel
theorem dX3_remove_62 : decode cX3_remove 62 = .ok (.return_, 1) := by decide +kernel
theorem dX3_become_0 : decode cX3_become 0 = .ok (.aload_n 0, 1) := by decide +kernel
theorem dX3_become_1 : decode cX3_become 1 = .ok (.aload_n 1, 1) := by decide +kernel
theorem dX3_become_2 : decode cX3_become 2 = .ok (.getfield 18, 3) := by decide +kernel
theorem dX3_become_5 : decode cX3_become 5 = .ok (.putfield 18, 3) := by decide +kernel
theorem dX3_become_8 : decode cX3_become 8 = .ok (.iconst 0, 1) := by decide +kernel
theorem dX3_become_9 : decode cX3_become 9 = .ok (.istore_n 2, 1) := by decide +kernel
theorem dX3_become_10 : decode cX3_become 10 = .ok (.iload_n 2, 1) := by decide +kernel
theorem dX3_become_11 : decode cX3_become 11 = .ok (.aload_n 0, 1) := by decide +kernel
theorem dX3_become_12 : decode cX3_become 12 = .ok (.getfield 18, 3) := by decide +kernel
theorem dX3_become_15 : decode cX3_become 15 = .ok (.if_icmp .ge 33, 3) := by decide +kernel
theorem dX3_become_18 : decode cX3_become 18 = .ok (.aload_n 0, 1) := by decide +kernel
theorem dX3_become_19 : decode cX3_become 19 = .ok (.getfield 9, 3) := by decide +kernel
theorem dX3_become_22 : decode cX3_become 22 = .ok (.iload_n 2, 1) := by decide +kernel
theorem dX3_become_23 : decode cX3_become 23 = .ok (.aload_n 1, 1) := by decide +kernel
theorem dX3_become_24 : decode cX3_become 24 = .ok (.getfield 9, 3) := by decide +kernel
theorem dX3_become_27 : decode cX3_become 27 = .ok (.iload_n 2, 1) := by decide +kernel
theorem dX3_become_28 : decode cX3_become 28 = .ok (.iaload, 1) := by decide +kernel
theorem dX3_become_29 : decode cX3_become 29 = .ok (.iastore, 1) := by decide +kernel
theorem dX3_become_30 : decode cX3_become 30 = .ok (.aload_n 0, 1) := by decide +kernel
theorem dX3_become_31 : decode cX3_become 31 = .ok (.getfield 15, 3) := by decide +kernel
theorem dX3_become_34 : decode cX3_become 34 = .ok (.iload_n 2, 1) := by decide +kernel
theorem dX3_become_35 : decode cX3_become 35 = .ok (.aload_n 1, 1) := by decide +kernel
theorem dX3_become_36 : decode cX3_become 36 = .ok (.getfield 15, 3) := by decide +kernel
theorem dX3_become_39 : decode cX3_become 39 = .ok (.iload_n 2, 1) := by decide +kernel
theorem dX3_become_40 : decode cX3_become 40 = .ok (.iaload, 1) := by decide +kernel
theorem dX3_become_41 : decode cX3_become 41 = .ok (.iastore, 1) := by decide +kernel
theorem dX3_become_42 : decode cX3_become 42 = .ok (.iinc 2 1, 3) := by decide +kernel
theorem dX3_become_45 : decode cX3_become 45 = .ok (.goto (-35), 3) := by decide +kernel
theorem dX3_become_48 : decode cX3_become 48 = .ok (.return_, 1) := by decide +kernel
set_option maxRecDepth 20000 in
theorem ggX4_init_X3_init : GoodIn wsX4_init wsX3_init := goodIn_r _ [9, 10, 2, 3, 11, 12, 13, 17, 18, 19] (by decide +kernel) (by decide +kernel)
set_option maxRecDepth 20000 in
theorem gX4_init_X3_init_n17 : GoodIn wsX4_init (wsX3_init) := ggX4_init_X3_init
theorem dX4_init_0 : decode cX4_init 0 = .ok (.aload_n 0, 1) := by decide +kernel
theorem dX4_init_1 : decode cX4_init 1 = .ok (.invokespecial 3, 3) := by decide +kernel
theorem dX4_init_4 : decode cX4_init 4 = .ok (.aload_n 0, 1) := by decide +kernel
theorem dX4_init_5 : decode cX4_init 5 = .ok (.bipush 10, 2) := by decide +kernel
theorem dX4_init_7 : decode cX4_init 7 = .ok (.anewarray 9, 3) := by decide +kernel
theorem dX4_init_10 : decode cX4_init 10 = .ok (.putfield 11, 3) := by decide +kernel
theorem dX4_init_13 : decode cX4_init 13 = .ok (.iconst 0, 1) := by decide +kernel
theorem dX4_init_14 : decode cX4_init 14 = .ok (.istore_n 1, 1) := by decide +kernel
theorem dX4_init_15 : decode cX4_init 15 = .ok (.iload_n 1, 1) := by decide +kernel
theorem dX4_init_16 : decode cX4_init 16 = .ok (.bipush 10, 2) := by decide +kernel
theorem dX4_init_18 : decode cX4_init 18 = .ok (.if_icmp .ge 22, 3) := by decide +kernel
theorem dX4_init_21 : decode cX4_init 21 = .ok (.aload_n 0, 1) := by decide +kernel
theorem dX4_init_22 : decode cX4_init 22 = .ok (.getfield 11, 3) := by decide +kernel
theorem dX4_init_25 : decode cX4_init 25 = .ok (.iload_n 1, 1) := by decide +kernel
theorem dX4_init_26 : decode cX4_init 26 = .ok (.new 9, 3) := by decide +kernel
theorem dX4_init_29 : decode cX4_init 29 = .ok (.dup, 1) := by decide +kernel
theorem dX4_init_30 : decode cX4_init 30 = .ok (.invokespecial 17, 3) := by decide +kernel
theorem dX4_init_33 : decode cX4_init 33 = .ok (.aastore, 1) := by decide +kernel
theorem dX4_init_34 : decode cX4_init 34 = .ok (.iinc 1 1, 3) := by decide +kernel
theorem dX4_init_37 : decode cX4_init 37 = .ok (.goto (-22), 3) := by decide +kernel
theorem dX4_init_40 : decode cX4_init 40 = .ok (.return_, 1) := by decide +kernel
