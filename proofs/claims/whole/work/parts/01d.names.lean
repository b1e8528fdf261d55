theorem dX7_init_34 : decode cX7_init 34 = .ok (.putfield 23, 3) := by decide +kernel
theorem dX7_init_37 : decode cX7_init 37 = .ok (.aload_n 0, 1) := by decide +kernel
theorem dX7_init_38 : decode cX7_init 38 = .ok (.new 26, 3) := by decide +kernel
theorem dX7_init_41 : decode cX7_init 41 = .ok (.dup, 1) := by decide +kernel
theorem dX7_init_42 : decode cX7_init 42 = .ok (.invokespecial 28, 3) := by decide +kernel
theorem dX7_init_45 : decode cX7_init 45 = .ok (.putfield 29, 3) := by decide +kernel
theorem dX7_init_48 : decode cX7_init 48 = .ok (.aload_n 0, 1) := by decide +kernel
theorem dX7_init_49 : decode cX7_init 49 = .ok (.new 33, 3) := by decide +kernel
theorem dX7_init_52 : decode cX7_init 52 = .ok (.dup, 1) := by decide +kernel
theorem dX7_init_53 : decode cX7_init 53 = .ok (.invokespecial 35, 3) := by decide +kernel
theorem dX7_init_56 : decode cX7_init 56 = .ok (.putfield 36, 3) := by decide +kernel
theorem dX7_init_59 : decode cX7_init 59 = .ok (.aload_n 0, 1) := by decide +kernel
theorem dX7_init_60 : decode cX7_init 60 = .ok (.new 40, 3) := by decide +kernel
theorem dX7_init_63 : decode cX7_init 63 = .ok (.dup, 1) := by decide +kernel
theorem dX7_init_64 : decode cX7_init 64 = .ok (.aload_n 0, 1) := by decide +kernel
theorem dX7_init_65 : decode cX7_init 65 = .ok (.getfield 19, 3) := by decide +kernel
theorem dX7_init_68 : decode cX7_init 68 = .ok (.aload_n 0, 1) := by decide +kernel
theorem dX7_init_69 : decode cX7_init 69 = .ok (.getfield 29, 3) := by decide +kernel
theorem dX7_init_72 : decode cX7_init 72 = .ok (.invokespecial 42, 3) := by decide +kernel
theorem dX7_init_75 : decode cX7_init 75 = .ok (.putfield 45, 3) := by decide +kernel
theorem dX7_init_78 : decode cX7_init 78 = .ok (.aload_n 0, 1) := by decide +kernel
theorem dX7_init_79 : decode cX7_init 79 = .ok (.new 49, 3) := by decide +kernel
theorem dX7_init_82 : decode cX7_init 82 = .ok (.dup, 1) := by decide +kernel
theorem dX7_init_83 : decode cX7_init 83 = .ok (.invokespecial 51, 3) := by decide +kernel
theorem dX7_init_86 : decode cX7_init 86 = .ok (.putfield 52, 3) := by decide +kernel
theorem dX7_init_89 : decode cX7_init 89 = .ok (.aload_n 0, 1) := by decide +kernel
theorem dX7_init_90 : decode cX7_init 90 = .ok (.iconst 2, 1) := by decide +kernel
theorem dX7_init_91 : decode cX7_init 91 = .ok (.anewarray 26, 3) := by decide +kernel
theorem dX7_init_94 : decode cX7_init 94 = .ok (.putfield 56, 3) := by decide +kernel
theorem dX7_init_97 : decode cX7_init 97 = .ok (.iconst 0, 1) := by decide +kernel
theorem dX7_init_98 : decode cX7_init 98 = .ok (.istore_n 1, 1) := by decide +kernel
theorem dX7_init_99 : decode cX7_init 99 = .ok (.iload_n 1, 1) := by decide +kernel
theorem dX7_init_100 : decode cX7_init 100 = .ok (.iconst 2, 1) := by decide +kernel
theorem dX7_init_101 : decode cX7_init 101 = .ok (.if_icmp .ge 22, 3) := by decide +kernel
theorem dX7_init_104 : decode cX7_init 104 = .ok (.aload_n 0, 1) := by decide +kernel
theorem dX7_init_105 : decode cX7_init 105 = .ok (.getfield 56, 3) := by decide +kernel
theorem dX7_init_108 : decode cX7_init 108 = .ok (.iload_n 1, 1) := by decide +kernel
theorem dX7_init_109 : decode cX7_init 109 = .ok (.new 26, 3) := by decide +kernel
theorem dX7_init_112 : decode cX7_init 112 = .ok (.dup, 1) := by decide +kernel
theorem dX7_init_113 : decode cX7_init 113 = .ok (.invokespecial 28, 3) := by decide +kernel
theorem dX7_init_116 : decode cX7_init 116 = .ok (.aastore, 1) := by decide +kernel
theorem dX7_init_117 : decode cX7_init 117 = .ok (.iinc 1 1, 3) := by decide +kernel
theorem dX7_init_120 : decode cX7_init 120 = .ok (.goto (-21), 3) := by decide +kernel
theorem dX7_init_123 : decode cX7_init 123 = .ok (.aload_n 0, 1) := by decide +kernel
theorem dX7_init_124 : decode cX7_init 124 = .ok (.iconst 2, 1) := by decide +kernel
theorem dX7_init_125 : decode cX7_init 125 = .ok (.newarray .boolean, 2) := by decide +kernel
theorem dX7_init_127 : decode cX7_init 127 = .ok (.putfield 60, 3) := by decide +kernel
theorem dX7_init_130 : decode cX7_init 130 = .ok (.return_, 1) := by decide +kernel
set_option maxRecDepth 20000 in
theorem ggX7_type_X5_append : GoodIn wsX7_type wsX5_append := goodIn_r _ [7, 8, 9, 19, 20, 21, 22, 23, 24] (by decide +kernel) (by decide +kernel)
set_option maxRecDepth 20000 in
theorem gX7_type_X5_append : GoodIn wsX7_type (wsV RX7 68 RX5 yX5_append wsX5_append) := goodIn_app (goodIn_of _ (by decide +kernel)) ggX7_type_X5_append
theorem dX7_type_0 : decode cX7_type 0 = .ok (.iload_n 1, 1) := by decide +kernel
theorem dX7_type_1 : decode cX7_type 1 = .ok (.ifCond .lt 10, 3) := by decide +kernel
theorem dX7_type_4 : decode cX7_type 4 = .ok (.iload_n 1, 1) := by decide +kernel
theorem dX7_type_5 : decode cX7_type 5 = .ok (.sipush 255, 3) := by decide +kernel
theorem dX7_type_8 : decode cX7_type 8 = .ok (.if_icmp .le 5, 3) := by decide +kernel
theorem dX7_type_11 : decode cX7_type 11 = .ok (.iconst (-1), 1) := by decide +kernel
theorem dX7_type_12 : decode cX7_type 12 = .ok (.ireturn, 1) := by decide +kernel
theorem dX7_type_13 : decode cX7_type 13 = .ok (.aload_n 0, 1) := by decide +kernel
theorem dX7_type_14 : decode cX7_type 14 = .ok (.getfield 12, 3) := by decide +kernel
theorem dX7_type_17 : decode cX7_type 17 = .ok (.getfield 64, 3) := by decide +kernel
theorem dX7_type_20 : decode cX7_type 20 = .ok (.sipush 140, 3) := by decide +kernel
theorem dX7_type_23 : decode cX7_type 23 = .ok (.if_icmp .lt 6, 3) := by decide +kernel
theorem dX7_type_26 : decode cX7_type 26 = .ok (.bipush (-3), 2) := by decide +kernel
theorem dX7_type_28 : decode cX7_type 28 = .ok (.ireturn, 1) := by decide +kernel
theorem dX7_type_29 : decode cX7_type 29 = .ok (.aload_n 0, 1) := by decide +kernel
theorem dX7_type_30 : decode cX7_type 30 = .ok (.getfield 12, 3) := by decide +kernel
theorem dX7_type_33 : decode cX7_type 33 = .ok (.iload_n 1, 1) := by decide +kernel
theorem dX7_type_34 : decode cX7_type 34 = .ok (.invokevirtual 68, 3) := by decide +kernel
theorem dX7_type_37 : decode cX7_type 37 = .ok (.aload_n 0, 1) := by decide +kernel
theorem dX7_type_38 : decode cX7_type 38 = .ok (.getfield 12, 3) := by decide +kernel
theorem dX7_type_41 : decode cX7_type 41 = .ok (.getfield 64, 3) := by decide +kernel
theorem dX7_type_44 : decode cX7_type 44 = .ok (.ireturn, 1) := by decide +kernel
theorem dX7_clear_0 : decode cX7_clear 0 = .ok (.aload_n 0, 1) := by decide +kernel
theorem dX7_clear_1 : decode cX7_clear 1 = .ok (.getfield 12, 3) := by decide +kernel
theorem dX7_clear_4 : decode cX7_clear 4 = .ok (.getfield 64, 3) := by decide +kernel
theorem dX7_clear_7 : decode cX7_clear 7 = .ok (.istore_n 1, 1) := by decide +kernel
theorem dX7_clear_8 : decode cX7_clear 8 = .ok (.aload_n 0, 1) := by decide +kernel
theorem dX7_clear_9 : decode cX7_clear 9 = .ok (.getfield 12, 3) := by decide +kernel
theorem dX7_clear_12 : decode cX7_clear 12 = .ok (.iconst 0, 1) := by decide +kernel
theorem dX7_clear_13 : decode cX7_clear 13 = .ok (.putfield 64, 3) := by decide +kernel
theorem dX7_clear_16 : decode cX7_clear 16 = .ok (.iload_n 1, 1) := by decide +kernel
theorem dX7_clear_17 : decode cX7_clear 17 = .ok (.ireturn, 1) := by decide +kernel
set_option maxRecDepth 20000 in
theorem ggX7_land_X5_tell : GoodIn wsX7_land wsX5_tell := goodIn_r _ [18, 19, 20, 21, 22, 23, 24, 25, 26, 27, 28, 29, 30, 31, 32, 33, 17, 34, 35, 36, 37, 38, 39, 40, 41, 42, 43, 44, 45, 46, 47, 48, 49, 50, 51, 52, 53, 54, 55, 56, 57, 58, 59, 60, 61, 62, 63, 64, 65, 66, 67, 68, 69, 70, 71, 72, 73, 74, 75, 76, 77, 78, 79, 80, 81, 82, 83, 84, 85, 86, 87, 88, 89, 90, 91, 92, 93, 94, 95, 96, 156, 157, 158, 159, 160, 161, 182, 183, 184, 185, 186, 187, 188, 189, 190, 191, 192] (by decide +kernel) (by decide +kernel)
set_option maxRecDepth 20000 in
theorem gX7_land_X5_tell : GoodIn wsX7_land (wsV RX7 72 RX5 yX5_tell wsX5_tell) := goodIn_app (goodIn_of _ (by decide +kernel)) ggX7_land_X5_tell
set_option maxRecDepth 20000 in
theorem ggX7_land_X1_become : GoodIn wsX7_land wsX1_become := goodIn_r _ [100, 27, 73, 74, 75, 28, 86, 87, 29, 101, 23, 24, 25, 26, 30, 102, 70, 71, 72, 76, 59, 60, 61, 62, 63, 64, 103, 83, 84, 85, 88, 89, 90, 91, 182, 183, 184, 185, 186, 187, 188, 189, 190, 191, 192] (by decide +kernel) (by decide +kernel)
set_option maxRecDepth 20000 in
theorem gX7_land_X1_become : GoodIn wsX7_land (wsV RX7 76 RX1 yX1_become wsX1_become) := goodIn_app (goodIn_of _ (by decide +kernel)) ggX7_land_X1_become
set_option maxRecDepth 20000 in
theorem ggX7_land_X1_survey : GoodIn wsX7_land wsX1_survey := goodIn_r _ [107, 108, 27, 30, 109, 110, 111, 25, 112, 28, 113, 114, 115, 116, 75, 117, 118, 119, 120, 121, 122, 47, 123, 124, 125, 126, 127, 128, 129, 130, 73, 131, 132, 133, 134, 74, 135, 136, 137, 138, 139, 140, 141, 142, 143, 144, 145, 146, 86, 87, 182, 183, 184, 185, 186, 187, 188, 189, 190, 191, 192] (by decide +kernel) (by decide +kernel)
set_option maxRecDepth 20000 in
theorem gX7_land_X1_survey : GoodIn wsX7_land (wsV RX7 80 RX1 yX1_survey wsX1_survey) := goodIn_app (goodIn_of _ (by decide +kernel)) ggX7_land_X1_survey
theorem dX7_land_0 : decode cX7_land 0 = .ok (.aload_n 0, 1) := by decide +kernel
theorem dX7_land_1 : decode cX7_land 1 = .ok (.getfield 12, 3) := by decide +kernel
theorem dX7_land_4 : decode cX7_land 4 = .ok (.aload_n 0, 1) := by decide +kernel
theorem dX7_land_5 : decode cX7_land 5 = .ok (.getfield 23, 3) := by decide +kernel
theorem dX7_land_8 : decode cX7_land 8 = .ok (.invokevirtual 72, 3) := by decide +kernel
theorem dX7_land_11 : decode cX7_land 11 = .ok (.istore_n 1, 1) := by decide +kernel
theorem dX7_land_12 : decode cX7_land 12 = .ok (.iload_n 1, 1) := by decide +kernel
theorem dX7_land_13 : decode cX7_land 13 = .ok (.ifCond .ge 5, 3) := by decide +kernel
theorem dX7_land_16 : decode cX7_land 16 = .ok (.iload_n 1, 1) := by decide +kernel
theorem dX7_land_17 : decode cX7_land 17 = .ok (.ireturn, 1) := by decide +kernel
theorem dX7_land_18 : decode cX7_land 18 = .ok (.aload_n 0, 1) := by decide +kernel
theorem dX7_land_19 : decode cX7_land 19 = .ok (.getfield 12, 3) := by decide +kernel
theorem dX7_land_22 : decode cX7_land 22 = .ok (.iconst 0, 1) := by decide +kernel
theorem dX7_land_23 : decode cX7_land 23 = .ok (.putfield 64, 3) := by decide +kernel
theorem dX7_land_26 : decode cX7_land 26 = .ok (.aload_n 0, 1) := by decide +kernel
theorem dX7_land_27 : decode cX7_land 27 = .ok (.getfield 19, 3) := by decide +kernel
theorem dX7_land_30 : decode cX7_land 30 = .ok (.aload_n 0, 1) := by decide +kernel
theorem dX7_land_31 : decode cX7_land 31 = .ok (.getfield 23, 3) := by decide +kernel
theorem dX7_land_34 : decode cX7_land 34 = .ok (.invokevirtual 76, 3) := by decide +kernel
theorem dX7_land_37 : decode cX7_land 37 = .ok (.aload_n 0, 1) := by decide +kernel
theorem dX7_land_38 : decode cX7_land 38 = .ok (.getfield 19, 3) := by decide +kernel
theorem dX7_land_41 : decode cX7_land 41 = .ok (.invokevirtual 80, 3) := by decide +kernel
theorem dX7_land_44 : decode cX7_land 44 = .ok (.aload_n 0, 1) := by decide +kernel
theorem dX7_land_45 : decode cX7_land 45 = .ok (.getfield 29, 3) := by decide +kernel
theorem dX7_land_48 : decode cX7_land 48 = .ok (.iconst 0, 1) := by decide +kernel
theorem dX7_land_49 : decode cX7_land 49 = .ok (.putfield 83, 3) := by decide +kernel
theorem dX7_land_52 : decode cX7_land 52 = .ok (.aload_n 0, 1) := by decide +kernel
theorem dX7_land_53 : decode cX7_land 53 = .ok (.getfield 36, 3) := by decide +kernel
theorem dX7_land_56 : decode cX7_land 56 = .ok (.iconst 0, 1) := by decide +kernel
theorem dX7_land_57 : decode cX7_land 57 = .ok (.putfield 86, 3) := by decide +kernel
theorem dX7_land_60 : decode cX7_land 60 = .ok (.aload_n 0, 1) := by decide +kernel
theorem dX7_land_61 : decode cX7_land 61 = .ok (.getfield 52, 3) := by decide +kernel
theorem dX7_land_64 : decode cX7_land 64 = .ok (.iconst 0, 1) := by decide +kernel
theorem dX7_land_65 : decode cX7_land 65 = .ok (.putfield 87, 3) := by decide +kernel
theorem dX7_land_68 : decode cX7_land 68 = .ok (.iconst 0, 1) := by decide +kernel
theorem dX7_land_69 : decode cX7_land 69 = .ok (.istore_n 2, 1) := by decide +kernel
theorem dX7_land_70 : decode cX7_land 70 = .ok (.iload_n 2, 1) := by decide +kernel
theorem dX7_land_71 : decode cX7_land 71 = .ok (.iconst 2, 1) := by decide +kernel
theorem dX7_land_72 : decode cX7_land 72 = .ok (.if_icmp .ge 16, 3) := by decide +kernel
theorem dX7_land_75 : decode cX7_land 75 = .ok (.aload_n 0, 1) := by decide +kernel
theorem dX7_land_76 : decode cX7_land 76 = .ok (.getfield 60, 3) := by decide +kernel
theorem dX7_land_79 : decode cX7_land 79 = .ok (.iload_n 2, 1) := by decide +kernel
theorem dX7_land_80 : decode cX7_land 80 = .ok (.iconst 0, 1) := by decide +kernel
theorem dX7_land_81 : decode cX7_land 81 = .ok (.bastore, 1) := by decide +kernel
theorem dX7_land_82 : decode cX7_land 82 = .ok (.iinc 2 1, 3) := by decide +kernel
theorem dX7_land_85 : decode cX7_land 85 = .ok (.goto (-15), 3) := by decide +kernel
theorem dX7_land_88 : decode cX7_land 88 = .ok (.aload_n 0, 1) := by decide +kernel
theorem dX7_land_89 : decode cX7_land 89 = .ok (.getfield 45, 3) := by decide +kernel
theorem dX7_land_92 : decode cX7_land 92 = .ok (.iconst 0, 1) := by decide +kernel
theorem dX7_land_93 : decode cX7_land 93 = .ok (.putfield 88, 3) := by decide +kernel
theorem dX7_land_96 : decode cX7_land 96 = .ok (.iload_n 1, 1) := by decide +kernel
theorem dX7_land_97 : decode cX7_land 97 = .ok (.ireturn, 1) := by decide +kernel
set_option maxRecDepth 20000 in
theorem ggX7_peak_X1_hasPeak : GoodIn wsX7_peak wsX1_hasPeak := goodIn_r _ [9, 10, 20, 21, 22, 23, 24, 25, 26, 27, 28, 29, 30] (by decide +kernel) (by decide +kernel)
set_option maxRecDepth 20000 in
theorem gX7_peak_X1_hasPeak : GoodIn wsX7_peak (wsV RX7 92 RX1 yX1_hasPeak wsX1_hasPeak) := goodIn_app (goodIn_of _ (by decide +kernel)) ggX7_peak_X1_hasPeak
theorem dX7_peak_0 : decode cX7_peak 0 = .ok (.aload_n 0, 1) := by decide +kernel
theorem dX7_peak_1 : decode cX7_peak 1 = .ok (.getfield 19, 3) := by decide +kernel
theorem dX7_peak_4 : decode cX7_peak 4 = .ok (.iload_n 1, 1) := by decide +kernel
theorem dX7_peak_5 : decode cX7_peak 5 = .ok (.invokevirtual 92, 3) := by decide +kernel
theorem dX7_peak_8 : decode cX7_peak 8 = .ok (.ifCond .ne 5, 3) := by decide +kernel
theorem dX7_peak_11 : decode cX7_peak 11 = .ok (.iconst (-1), 1) := by decide +kernel
theorem dX7_peak_12 : decode cX7_peak 12 = .ok (.ireturn, 1) := by decide +kernel
theorem dX7_peak_13 : decode cX7_peak 13 = .ok (.iload_n 2, 1) := by decide +kernel
theorem dX7_peak_14 : decode cX7_peak 14 = .ok (.tableswitch 56 0 2 #[26, 36, 46], 26) := by decide +kernel
theorem dX7_peak_40 : decode cX7_peak 40 = .ok (.aload_n 0, 1) := by decide +kernel
theorem dX7_peak_41 : decode cX7_peak 41 = .ok (.getfield 19, 3) := by decide +kernel
theorem dX7_peak_44 : decode cX7_peak 44 = .ok (.getfield 96, 3) := by decide +kernel
theorem dX7_peak_47 : decode cX7_peak 47 = .ok (.iload_n 1, 1) := by decide +kernel
theorem dX7_peak_48 : decode cX7_peak 48 = .ok (.iaload, 1) := by decide +kernel
theorem dX7_peak_49 : decode cX7_peak 49 = .ok (.ireturn, 1) := by decide +kernel
theorem dX7_peak_50 : decode cX7_peak 50 = .ok (.aload_n 0, 1) := by decide +kernel
theorem dX7_peak_51 : decode cX7_peak 51 = .ok (.getfield 19, 3) := by decide +kernel
theorem dX7_peak_54 : decode cX7_peak 54 = .ok (.getfield 100, 3) := by decide +kernel
theorem dX7_peak_57 : decode cX7_peak 57 = .ok (.iload_n 1, 1) := by decide +kernel
theorem dX7_peak_58 : decode cX7_peak 58 = .ok (.iaload, 1) := by decide +kernel
theorem dX7_peak_59 : decode cX7_peak 59 = .ok (.ireturn, 1) := by decide +kernel
theorem dX7_peak_60 : decode cX7_peak 60 = .ok (.aload_n 0, 1) := by decide +kernel
theorem dX7_peak_61 : decode cX7_peak 61 = .ok (.getfield 19, 3) := by decide +kernel
theorem dX7_peak_64 : decode cX7_peak 64 = .ok (.getfield 103, 3) := by decide +kernel
theorem dX7_peak_67 : decode cX7_peak 67 = .ok (.iload_n 1, 1) := by decide +kernel
theorem dX7_peak_68 : decode cX7_peak 68 = .ok (.iaload, 1) := by decide +kernel
theorem dX7_peak_69 : decode cX7_peak 69 = .ok (.ireturn, 1) := by decide +kernel
theorem dX7_peak_70 : decode cX7_peak 70 = .ok (.iconst (-1), 1) := by decide +kernel
theorem dX7_peak_71 : decode cX7_peak 71 = .ok (.ireturn, 1) := by decide +kernel
theorem dX7_ridge_0 : decode cX7_ridge 0 = .ok (.iload_n 1, 1) := by decide +kernel
theorem dX7_ridge_1 : decode cX7_ridge 1 = .ok (.ifCond .lt 14, 3) := by decide +kernel
theorem dX7_ridge_4 : decode cX7_ridge 4 = .ok (.iload_n 1, 1) := by decide +kernel
theorem dX7_ridge_5 : decode cX7_ridge 5 = .ok (.aload_n 0, 1) := by decide +kernel
theorem dX7_ridge_6 : decode cX7_ridge 6 = .ok (.getfield 19, 3) := by decide +kernel
theorem dX7_ridge_9 : decode cX7_ridge 9 = .ok (.getfield 106, 3) := by decide +kernel
theorem dX7_ridge_12 : decode cX7_ridge 12 = .ok (.if_icmp .lt 5, 3) := by decide +kernel
theorem dX7_ridge_15 : decode cX7_ridge 15 = .ok (.iconst (-1), 1) := by decide +kernel
theorem dX7_ridge_16 : decode cX7_ridge 16 = .ok (.ireturn, 1) := by decide +kernel
theorem dX7_ridge_17 : decode cX7_ridge 17 = .ok (.iload_n 2, 1) := by decide +kernel
theorem dX7_ridge_18 : decode cX7_ridge 18 = .ok (.lookupswitch 46 #[(0, 26), (1, 36)], 26) := by decide +kernel
theorem dX7_ridge_44 : decode cX7_ridge 44 = .ok (.aload_n 0, 1) := by decide +kernel
theorem dX7_ridge_45 : decode cX7_ridge 45 = .ok (.getfield 19, 3) := by decide +kernel
theorem dX7_ridge_48 : decode cX7_ridge 48 = .ok (.getfield 109, 3) := by decide +kernel
theorem dX7_ridge_51 : decode cX7_ridge 51 = .ok (.iload_n 1, 1) := by decide +kernel
theorem dX7_ridge_52 : decode cX7_ridge 52 = .ok (.iaload, 1) := by decide +kernel
theorem dX7_ridge_53 : decode cX7_ridge 53 = .ok (.ireturn, 1) := by decide +kernel
theorem dX7_ridge_54 : decode cX7_ridge 54 = .ok (.aload_n 0, 1) := by decide +kernel
theorem dX7_ridge_55 : decode cX7_ridge 55 = .ok (.getfield 19, 3) := by decide +kernel
theorem dX7_ridge_58 : decode cX7_ridge 58 = .ok (.getfield 112, 3) := by decide +kernel
theorem dX7_ridge_61 : decode cX7_ridge 61 = .ok (.iload_n 1, 1) := by decide +kernel
theorem dX7_ridge_62 : decode cX7_ridge 62 = .ok (.iaload, 1) := by decide +kernel
theorem dX7_ridge_63 : decode cX7_ridge 63 = .ok (.ireturn, 1) := by decide +kernel
theorem dX7_ridge_64 : decode cX7_ridge 64 = .ok (.iconst (-1), 1) := by decide +kernel
theorem dX7_ridge_65 : decode cX7_ridge 65 = .ok (.ireturn, 1) := by decide +kernel
set_option maxRecDepth 20000 in
theorem ggX7_notes_X7_isMark : GoodIn wsX7_notes wsX7_isMark := goodIn_r _ [6, 7, 8, 5, 9] (by decide +kernel) (by decide +kernel)
set_option maxRecDepth 20000 in
theorem gX7_notes_X7_isMark : GoodIn wsX7_notes (va_wsS RX7 115 yX7_isMark wsX7_isMark) := goodIn_app (goodIn_of _ (by decide +kernel)) ggX7_notes_X7_isMark
set_option maxRecDepth 20000 in
theorem ggX7_notes_X7_beforeDone : GoodIn wsX7_notes wsX7_beforeDone := goodIn_r _ [13, 14, 1, 15, 16, 17, 18, 19, 20, 21, 22, 23, 24, 25, 26, 27, 28, 29, 30, 31, 32, 33, 34, 35, 36, 41, 42, 43, 44, 45, 46, 47, 48, 49, 53, 54, 55, 56, 57, 58, 59, 60, 61, 62, 63, 64, 65, 50, 51, 52] (by decide +kernel) (by decide +kernel)
set_option maxRecDepth 20000 in
theorem gX7_notes_X7_beforeDone : GoodIn wsX7_notes (wsV RX7 119 RX7 yX7_beforeDone wsX7_beforeDone) := goodIn_app (goodIn_of _ (by decide +kernel)) ggX7_notes_X7_beforeDone
set_option maxRecDepth 20000 in
theorem ggX7_notes_X3_append : GoodIn wsX7_notes wsX3_append := goodIn_r _ [40, 34, 35, 36, 50, 51, 52] (by decide +kernel) (by decide +kernel)
set_option maxRecDepth 20000 in
theorem gX7_notes_X3_append : GoodIn wsX7_notes (wsV RX7 122 RX3 yX3_append wsX3_append) := goodIn_app (goodIn_of _ (by decide +kernel)) ggX7_notes_X3_append
theorem dX7_notes_0 : decode cX7_notes 0 = .ok (.iload_n 1, 1) := by decide +kernel
theorem dX7_notes_1 : decode cX7_notes 1 = .ok (.iload_n 2, 1) := by decide +kernel
theorem dX7_notes_2 : decode cX7_notes 2 = .ok (.invokestatic 115, 3) := by decide +kernel
theorem dX7_notes_5 : decode cX7_notes 5 = .ok (.ifCond .ne 5, 3) := by decide +kernel
theorem dX7_notes_8 : decode cX7_notes 8 = .ok (.iconst (-1), 1) := by decide +kernel
theorem dX7_notes_9 : decode cX7_notes 9 = .ok (.ireturn, 1) := by decide +kernel
theorem dX7_notes_10 : decode cX7_notes 10 = .ok (.aload_n 0, 1) := by decide +kernel
theorem dX7_notes_11 : decode cX7_notes 11 = .ok (.getfield 29, 3) := by decide +kernel
theorem dX7_notes_14 : decode cX7_notes 14 = .ok (.getfield 83, 3) := by decide +kernel
theorem dX7_notes_17 : decode cX7_notes 17 = .ok (.bipush 8, 2) := by decide +kernel
theorem dX7_notes_19 : decode cX7_notes 19 = .ok (.if_icmp .lt 6, 3) := by decide +kernel
theorem dX7_notes_22 : decode cX7_notes 22 = .ok (.bipush (-3), 2) := by decide +kernel
theorem dX7_notes_24 : decode cX7_notes 24 = .ok (.ireturn, 1) := by decide +kernel
theorem dX7_notes_25 : decode cX7_notes 25 = .ok (.aload_n 0, 1) := by decide +kernel
theorem dX7_notes_26 : decode cX7_notes 26 = .ok (.invokevirtual 119, 3) := by decide +kernel
theorem dX7_notes_29 : decode cX7_notes 29 = .ok (.aload_n 0, 1) := by decide +kernel
theorem dX7_notes_30 : decode cX7_notes 30 = .ok (.getfield 29, 3) := by decide +kernel
theorem dX7_notes_33 : decode cX7_notes 33 = .ok (.iload_n 1, 1) := by decide +kernel
theorem dX7_notes_34 : decode cX7_notes 34 = .ok (.iload_n 2, 1) := by decide +kernel
theorem dX7_notes_35 : decode cX7_notes 35 = .ok (.invokevirtual 122, 3) := by decide +kernel
theorem dX7_notes_38 : decode cX7_notes 38 = .ok (.aload_n 0, 1) := by decide +kernel
theorem dX7_notes_39 : decode cX7_notes 39 = .ok (.getfield 29, 3) := by decide +kernel
theorem dX7_notes_42 : decode cX7_notes 42 = .ok (.getfield 83, 3) := by decide +kernel
theorem dX7_notes_45 : decode cX7_notes 45 = .ok (.ireturn, 1) := by decide +kernel
set_option maxRecDepth 20000 in
theorem ggX7_erases_X3_has : GoodIn wsX7_erases wsX3_has := goodIn_r _ [7, 8, 49, 50, 51] (by decide +kernel) (by decide +kernel)
set_option maxRecDepth 20000 in
theorem gX7_erases_X3_has : GoodIn wsX7_erases (wsV RX7 125 RX3 yX3_has wsX3_has) := goodIn_app (goodIn_of _ (by decide +kernel)) ggX7_erases_X3_has
set_option maxRecDepth 20000 in
theorem ggX7_erases_X7_beforeDone : GoodIn wsX7_erases wsX7_beforeDone := goodIn_r _ [13, 14, 1, 15, 16, 17, 18, 19, 20, 21, 22, 23, 24, 25, 26, 27, 28, 29, 30, 31, 6, 32, 8, 33, 34, 40, 41, 42, 43, 44, 45, 46, 47, 48, 52, 53, 54, 55, 56, 57, 58, 59, 60, 61, 62, 63, 64, 49, 50, 51] (by decide +kernel) (by decide +kernel)
set_option maxRecDepth 20000 in
theorem gX7_erases_X7_beforeDone : GoodIn wsX7_erases (wsV RX7 119 RX7 yX7_beforeDone wsX7_beforeDone) := goodIn_app (goodIn_of _ (by decide +kernel)) ggX7_erases_X7_beforeDone
set_option maxRecDepth 20000 in
theorem ggX7_erases_X3_remove : GoodIn wsX7_erases wsX3_remove := goodIn_r _ [38, 8, 33, 34, 39, 4, 5, 6, 7, 49, 50, 51] (by decide +kernel) (by decide +kernel)
set_option maxRecDepth 20000 in
theorem gX7_erases_X3_remove : GoodIn wsX7_erases (wsV RX7 128 RX3 yX3_remove wsX3_remove) := goodIn_app (goodIn_of _ (by decide +kernel)) ggX7_erases_X3_remove
theorem dX7_erases_0 : decode cX7_erases 0 = .ok (.aload_n 0, 1) := by decide +kernel
theorem dX7_erases_1 : decode cX7_erases 1 = .ok (.getfield 29, 3) := by decide +kernel
theorem dX7_erases_4 : decode cX7_erases 4 = .ok (.iload_n 1, 1) := by decide +kernel
theorem dX7_erases_5 : decode cX7_erases 5 = .ok (.invokevirtual 125, 3) := by decide +kernel
theorem dX7_erases_8 : decode cX7_erases 8 = .ok (.ifCond .ne 5, 3) := by decide +kernel
theorem dX7_erases_11 : decode cX7_erases 11 = .ok (.iconst (-1), 1) := by decide +kernel
theorem dX7_erases_12 : decode cX7_erases 12 = .ok (.ireturn, 1) := by decide +kernel
theorem dX7_erases_13 : decode cX7_erases 13 = .ok (.aload_n 0, 1) := by decide +kernel
theorem dX7_erases_14 : decode cX7_erases 14 = .ok (.invokevirtual 119, 3) := by decide +kernel
theorem dX7_erases_17 : decode cX7_erases 17 = .ok (.aload_n 0, 1) := by decide +kernel
theorem dX7_erases_18 : decode cX7_erases 18 = .ok (.getfield 29, 3) := by decide +kernel
theorem dX7_erases_21 : decode cX7_erases 21 = .ok (.iload_n 1, 1) := by decide +kernel
theorem dX7_erases_22 : decode cX7_erases 22 = .ok (.invokevirtual 128, 3) := by decide +kernel
theorem dX7_erases_25 : decode cX7_erases 25 = .ok (.aload_n 0, 1) := by decide +kernel
theorem dX7_erases_26 : decode cX7_erases 26 = .ok (.getfield 29, 3) := by decide +kernel
theorem dX7_erases_29 : decode cX7_erases 29 = .ok (.getfield 83, 3) := by decide +kernel
theorem dX7_erases_32 : decode cX7_erases 32 = .ok (.ireturn, 1) := by decide +kernel
set_option maxRecDepth 20000 in
theorem ggX7_mends_X3_has : GoodIn wsX7_mends wsX3_has := goodIn_r _ [8, 9, 51, 52, 53] (by decide +kernel) (by decide +kernel)
set_option maxRecDepth 20000 in
theorem gX7_mends_X3_has : GoodIn wsX7_mends (wsV RX7 125 RX3 yX3_has wsX3_has) := goodIn_app (goodIn_of _ (by decide +kernel)) ggX7_mends_X3_has
set_option maxRecDepth 20000 in
theorem ggX7_mends_X7_isMark : GoodIn wsX7_mends wsX7_isMark := goodIn_r _ [13, 14, 15, 12, 16] (by decide +kernel) (by decide +kernel)
set_option maxRecDepth 20000 in
theorem gX7_mends_X7_isMark : GoodIn wsX7_mends (va_wsS RX7 115 yX7_isMark wsX7_isMark) := goodIn_app (goodIn_of _ (by decide +kernel)) ggX7_mends_X7_isMark
set_option maxRecDepth 20000 in
theorem ggX7_mends_X7_beforeDone : GoodIn wsX7_mends wsX7_beforeDone := goodIn_r _ [20, 21, 1, 22, 23, 24, 25, 26, 27, 28, 29, 30, 31, 32, 33, 34, 35, 36, 37, 38, 7, 39, 9, 40, 41, 42, 43, 44, 45, 46, 47, 48, 49, 50, 54, 55, 56, 57, 58, 59, 60, 61, 62, 63, 64, 65, 66, 51, 52, 53] (by decide +kernel) (by decide +kernel)
set_option maxRecDepth 20000 in
theorem gX7_mends_X7_beforeDone : GoodIn wsX7_mends (wsV RX7 119 RX7 yX7_beforeDone wsX7_beforeDone) := goodIn_app (goodIn_of _ (by decide +kernel)) ggX7_mends_X7_beforeDone
theorem dX7_mends_0 : decode cX7_mends 0 = .ok (.aload_n 0, 1) := by decide +kernel
theorem dX7_mends_1 : decode cX7_mends 1 = .ok (.getfield 29, 3) := by decide +kernel
theorem dX7_mends_4 : decode cX7_mends 4 = .ok (.iload_n 1, 1) := by decide +kernel
theorem dX7_mends_5 : decode cX7_mends 5 = .ok (.invokevirtual 125, 3) := by decide +kernel
theorem dX7_mends_8 : decode cX7_mends 8 = .ok (.ifCond .eq 11, 3) := by decide +kernel
theorem dX7_mends_11 : decode cX7_mends 11 = .ok (.iload_n 2, 1) := by decide +kernel
theorem dX7_mends_12 : decode cX7_mends 12 = .ok (.iload_n 3, 1) := by decide +kernel
theorem dX7_mends_13 : decode cX7_mends 13 = .ok (.invokestatic 115, 3) := by decide +kernel
theorem dX7_mends_16 : decode cX7_mends 16 = .ok (.ifCond .ne 5, 3) := by decide +kernel
theorem dX7_mends_19 : decode cX7_mends 19 = .ok (.iconst (-1), 1) := by decide +kernel
theorem dX7_mends_20 : decode cX7_mends 20 = .ok (.ireturn, 1) := by decide +kernel
theorem dX7_mends_21 : decode cX7_mends 21 = .ok (.aload_n 0, 1) := by decide +kernel
theorem dX7_mends_22 : decode cX7_mends 22 = .ok (.getfield 29, 3) := by decide +kernel
theorem dX7_mends_25 : decode cX7_mends 25 = .ok (.getfield 131, 3) := by decide +kernel
theorem dX7_mends_28 : decode cX7_mends 28 = .ok (.iload_n 1, 1) := by decide +kernel
theorem dX7_mends_29 : decode cX7_mends 29 = .ok (.iaload, 1) := by decide +kernel
theorem dX7_mends_30 : decode cX7_mends 30 = .ok (.iload_n 2, 1) := by decide +kernel
theorem dX7_mends_31 : decode cX7_mends 31 = .ok (.if_icmp .ne 19, 3) := by decide +kernel
theorem dX7_mends_34 : decode cX7_mends 34 = .ok (.aload_n 0, 1) := by decide +kernel
theorem dX7_mends_35 : decode cX7_mends 35 = .ok (.getfield 29, 3) := by decide +kernel
theorem dX7_mends_38 : decode cX7_mends 38 = .ok (.getfield 134, 3) := by decide +kernel
theorem dX7_mends_41 : decode cX7_mends 41 = .ok (.iload_n 1, 1) := by decide +kernel
theorem dX7_mends_42 : decode cX7_mends 42 = .ok (.iaload, 1) := by decide +kernel
theorem dX7_mends_43 : decode cX7_mends 43 = .ok (.iload_n 3, 1) := by decide +kernel
theorem dX7_mends_44 : decode cX7_mends 44 = .ok (.if_icmp .ne 6, 3) := by decide +kernel
theorem dX7_mends_47 : decode cX7_mends 47 = .ok (.bipush (-2), 2) := by decide +kernel
theorem dX7_mends_49 : decode cX7_mends 49 = .ok (.ireturn, 1) := by decide +kernel
theorem dX7_mends_50 : decode cX7_mends 50 = .ok (.aload_n 0, 1) := by decide +kernel
theorem dX7_mends_51 : decode cX7_mends 51 = .ok (.invokevirtual 119, 3) := by decide +kernel
theorem dX7_mends_54 : decode cX7_mends 54 = .ok (.aload_n 0, 1) := by decide +kernel
theorem dX7_mends_55 : decode cX7_mends 55 = .ok (.getfield 29, 3) := by decide +kernel
theorem dX7_mends_58 : decode cX7_mends 58 = .ok (.getfield 131, 3) := by decide +kernel
theorem dX7_mends_61 : decode cX7_mends 61 = .ok (.iload_n 1, 1) := by decide +kernel
theorem dX7_mends_62 : decode cX7_mends 62 = .ok (.iload_n 2, 1) := by decide +kernel
theorem dX7_mends_63 : decode cX7_mends 63 = .ok (.iastore, 1) := by decide +kernel
theorem dX7_mends_64 : decode cX7_mends 64 = .ok (.aload_n 0, 1) := by decide +kernel
theorem dX7_mends_65 : decode cX7_mends 65 = .ok (.getfield 29, 3) := by decide +kernel
theorem dX7_mends_68 : decode cX7_mends 68 = .ok (.getfield 134, 3) := by decide +kernel
theorem dX7_mends_71 : decode cX7_mends 71 = .ok (.iload_n 1, 1) := by decide +kernel
theorem dX7_mends_72 : decode cX7_mends 72 = .ok (.iload_n 3, 1) := by decide +kernel
theorem dX7_mends_73 : decode cX7_mends 73 = .ok (.iastore, 1) := by decide +kernel
theorem dX7_mends_74 : decode cX7_mends 74 = .ok (.iconst 1, 1) := by decide +kernel
theorem dX7_mends_75 : decode cX7_mends 75 = .ok (.ireturn, 1) := by decide +kernel
set_option maxRecDepth 20000 in
theorem ggX7_sketches_X1_isPlace : GoodIn wsX7_sketches wsX1_isPlace := goodIn_r _ [9, 10, 11, 12, 13, 120, 121, 122, 123, 124, 125, 126, 127, 128, 129, 130] (by decide +kernel) (by decide +kernel)
set_option maxRecDepth 20000 in
theorem gX7_sketches_X1_isPlace : GoodIn wsX7_sketches (wsV RX7 137 RX1 yX1_isPlace wsX1_isPlace) := goodIn_app (goodIn_of _ (by decide +kernel)) ggX7_sketches_X1_isPlace
set_option maxRecDepth 20000 in
theorem ggX7_sketches_X7_isLook : GoodIn wsX7_sketches wsX7_isLook := goodIn_r _ [16] (by decide +kernel) (by decide +kernel)
set_option maxRecDepth 20000 in
theorem gX7_sketches_X7_isLook : GoodIn wsX7_sketches (va_wsS RX7 140 yX7_isLook wsX7_isLook) := goodIn_app (goodIn_of _ (by decide +kernel)) ggX7_sketches_X7_isLook
set_option maxRecDepth 20000 in
theorem ggX7_sketches_X7_beforeDone : GoodIn wsX7_sketches wsX7_beforeDone := goodIn_r _ [20, 21, 2, 22, 23, 24, 25, 26, 27, 28, 29, 30, 31, 32, 33, 34, 35, 36, 37, 38, 39, 40, 41, 42, 43, 108, 109, 110, 111, 112, 113, 114, 115, 116, 131, 132, 133, 134, 135, 136, 137, 138, 139, 140, 141, 142, 143, 117, 118, 119] (by decide +kernel) (by decide +kernel)
set_option maxRecDepth 20000 in
theorem gX7_sketches_X7_beforeDone : GoodIn wsX7_sketches (wsV RX7 119 RX7 yX7_beforeDone wsX7_beforeDone) := goodIn_app (goodIn_of _ (by decide +kernel)) ggX7_sketches_X7_beforeDone
set_option maxRecDepth 20000 in
theorem ggX7_sketches_X7_pointOf : GoodIn wsX7_sketches wsX7_pointOf := goodIn_r _ [13] (by decide +kernel) (by decide +kernel)
set_option maxRecDepth 20000 in
theorem gX7_sketches_X7_pointOf : GoodIn wsX7_sketches (va_wsS RX7 143 yX7_pointOf wsX7_pointOf) := goodIn_app (goodIn_of _ (by decide +kernel)) ggX7_sketches_X7_pointOf
set_option maxRecDepth 20000 in
theorem ggX7_sketches_X1_turnRound : GoodIn wsX7_sketches wsX1_turnRound := goodIn_r _ [48, 49, 50, 51, 52, 53, 8, 54, 55, 56, 57, 58, 59, 60, 61, 62, 63, 64, 65, 66, 67, 68, 69, 70, 71, 72, 73, 74, 75, 76, 77, 78, 79, 80, 81, 82, 83, 34, 84, 85, 86, 87, 120, 121, 122, 123, 124, 125, 126, 127, 128, 129, 130] (by decide +kernel) (by decide +kernel)
set_option maxRecDepth 20000 in
theorem gX7_sketches_X1_turnRound : GoodIn wsX7_sketches (wsV RX7 147 RX1 yX1_turnRound wsX1_turnRound) := goodIn_app (goodIn_of _ (by decide +kernel)) ggX7_sketches_X1_turnRound
set_option maxRecDepth 20000 in
theorem ggX7_sketches_X1_bearingFrom : GoodIn wsX7_sketches wsX1_bearingFrom := goodIn_r _ [91, 82, 83, 34, 84, 69, 70, 71, 8, 72, 73, 64, 65, 66, 67, 68, 92, 93, 94, 95, 120, 121, 122, 123, 124, 125, 126, 127, 128, 129, 130] (by decide +kernel) (by decide +kernel)
set_option maxRecDepth 20000 in
theorem gX7_sketches_X1_bearingFrom : GoodIn wsX7_sketches (wsV RX7 154 RX1 yX1_bearingFrom wsX1_bearingFrom) := goodIn_app (goodIn_of _ (by decide +kernel)) ggX7_sketches_X1_bearingFrom
set_option maxRecDepth 20000 in
theorem ggX7_sketches_J9_floorMod_7cf53 : GoodIn wsX7_sketches wsJ9_floorMod_7cf53 := goodIn_r _ [98] (by decide +kernel) (by decide +kernel)
set_option maxRecDepth 20000 in
theorem gX7_sketches_J9_floorMod_7cf53 : GoodIn wsX7_sketches (va_wsS RX7 157 yJ9_floorMod_7cf53 wsJ9_floorMod_7cf53) := goodIn_app (goodIn_of _ (by decide +kernel)) ggX7_sketches_J9_floorMod_7cf53
set_option maxRecDepth 20000 in
theorem ggX7_sketches_X1_heightFrom : GoodIn wsX7_sketches wsX1_heightFrom := goodIn_r _ [102, 103, 78, 79, 80, 8, 81, 82, 83, 34, 84, 85, 86, 87, 69, 70, 71, 72, 73, 64, 65, 66, 67, 68, 120, 121, 122, 123, 124, 125, 126, 127, 128, 129, 130] (by decide +kernel) (by decide +kernel)
set_option maxRecDepth 20000 in
theorem gX7_sketches_X1_heightFrom : GoodIn wsX7_sketches (wsV RX7 162 RX1 yX1_heightFrom wsX1_heightFrom) := goodIn_app (goodIn_of _ (by decide +kernel)) ggX7_sketches_X1_heightFrom
set_option maxRecDepth 20000 in
theorem ggX7_sketches_X3_append : GoodIn wsX7_sketches wsX3_append := goodIn_r _ [107, 41, 42, 43, 117, 118, 119] (by decide +kernel) (by decide +kernel)
set_option maxRecDepth 20000 in
theorem gX7_sketches_X3_append : GoodIn wsX7_sketches (wsV RX7 122 RX3 yX3_append wsX3_append) := goodIn_app (goodIn_of _ (by decide +kernel)) ggX7_sketches_X3_append
theorem dX7_sketches_0 : decode cX7_sketches 0 = .ok (.aload_n 0, 1) := by decide +kernel
theorem dX7_sketches_1 : decode cX7_sketches 1 = .ok (.getfield 19, 3) := by decide +kernel
theorem dX7_sketches_4 : decode cX7_sketches 4 = .ok (.iload_n 1, 1) := by decide +kernel
theorem dX7_sketches_5 : decode cX7_sketches 5 = .ok (.iload_n 2, 1) := by decide +kernel
theorem dX7_sketches_6 : decode cX7_sketches 6 = .ok (.invokevirtual 137, 3) := by decide +kernel
theorem dX7_sketches_9 : decode cX7_sketches 9 = .ok (.ifCond .eq 10, 3) := by decide +kernel
theorem dX7_sketches_12 : decode cX7_sketches 12 = .ok (.iload_n 3, 1) := by decide +kernel
theorem dX7_sketches_13 : decode cX7_sketches 13 = .ok (.invokestatic 140, 3) := by decide +kernel
theorem dX7_sketches_16 : decode cX7_sketches 16 = .ok (.ifCond .ne 5, 3) := by decide +kernel
theorem dX7_sketches_19 : decode cX7_sketches 19 = .ok (.iconst (-1), 1) := by decide +kernel
theorem dX7_sketches_20 : decode cX7_sketches 20 = .ok (.ireturn, 1) := by decide +kernel
theorem dX7_sketches_21 : decode cX7_sketches 21 = .ok (.aload_n 0, 1) := by decide +kernel
theorem dX7_sketches_22 : decode cX7_sketches 22 = .ok (.invokevirtual 119, 3) := by decide +kernel
theorem dX7_sketches_25 : decode cX7_sketches 25 = .ok (.iload_n 1, 1) := by decide +kernel
theorem dX7_sketches_26 : decode cX7_sketches 26 = .ok (.iload_n 2, 1) := by decide +kernel
theorem dX7_sketches_27 : decode cX7_sketches 27 = .ok (.invokestatic 143, 3) := by decide +kernel
theorem dX7_sketches_30 : decode cX7_sketches 30 = .ok (.istore 4, 2) := by decide +kernel
theorem dX7_sketches_32 : decode cX7_sketches 32 = .ok (.aload_n 0, 1) := by decide +kernel
theorem dX7_sketches_33 : decode cX7_sketches 33 = .ok (.getfield 19, 3) := by decide +kernel
theorem dX7_sketches_36 : decode cX7_sketches 36 = .ok (.iload 4, 2) := by decide +kernel
theorem dX7_sketches_38 : decode cX7_sketches 38 = .ok (.invokevirtual 147, 3) := by decide +kernel
theorem dX7_sketches_41 : decode cX7_sketches 41 = .ok (.istore 5, 2) := by decide +kernel
theorem dX7_sketches_43 : decode cX7_sketches 43 = .ok (.aload_n 0, 1) := by decide +kernel
theorem dX7_sketches_44 : decode cX7_sketches 44 = .ok (.getfield 29, 3) := by decide +kernel
theorem dX7_sketches_47 : decode cX7_sketches 47 = .ok (.iconst 0, 1) := by decide +kernel
theorem dX7_sketches_48 : decode cX7_sketches 48 = .ok (.putfield 83, 3) := by decide +kernel
theorem dX7_sketches_51 : decode cX7_sketches 51 = .ok (.iconst 0, 1) := by decide +kernel
theorem dX7_sketches_52 : decode cX7_sketches 52 = .ok (.istore 6, 2) := by decide +kernel
theorem dX7_sketches_54 : decode cX7_sketches 54 = .ok (.iload 6, 2) := by decide +kernel
theorem dX7_sketches_56 : decode cX7_sketches 56 = .ok (.iload 5, 2) := by decide +kernel
theorem dX7_sketches_58 : decode cX7_sketches 58 = .ok (.if_icmp .ge 64, 3) := by decide +kernel
theorem dX7_sketches_61 : decode cX7_sketches 61 = .ok (.iload 6, 2) := by decide +kernel
theorem dX7_sketches_63 : decode cX7_sketches 63 = .ok (.bipush 8, 2) := by decide +kernel
theorem dX7_sketches_65 : decode cX7_sketches 65 = .ok (.if_icmp .ge 57, 3) := by decide +kernel
theorem dX7_sketches_68 : decode cX7_sketches 68 = .ok (.aload_n 0, 1) := by decide +kernel
theorem dX7_sketches_69 : decode cX7_sketches 69 = .ok (.getfield 19, 3) := by decide +kernel
theorem dX7_sketches_72 : decode cX7_sketches 72 = .ok (.getfield 151, 3) := by decide +kernel
theorem dX7_sketches_75 : decode cX7_sketches 75 = .ok (.iload 6, 2) := by decide +kernel
theorem dX7_sketches_77 : decode cX7_sketches 77 = .ok (.iaload, 1) := by decide +kernel
theorem dX7_sketches_78 : decode cX7_sketches 78 = .ok (.istore 7, 2) := by decide +kernel
theorem dX7_sketches_80 : decode cX7_sketches 80 = .ok (.aload_n 0, 1) := by decide +kernel
theorem dX7_sketches_81 : decode cX7_sketches 81 = .ok (.getfield 29, 3) := by decide +kernel
theorem dX7_sketches_84 : decode cX7_sketches 84 = .ok (.aload_n 0, 1) := by decide +kernel
theorem dX7_sketches_85 : decode cX7_sketches 85 = .ok (.getfield 19, 3) := by decide +kernel
theorem dX7_sketches_88 : decode cX7_sketches 88 = .ok (.iload 4, 2) := by decide +kernel
theorem dX7_sketches_90 : decode cX7_sketches 90 = .ok (.iload 7, 2) := by decide +kernel
theorem dX7_sketches_92 : decode cX7_sketches 92 = .ok (.invokevirtual 154, 3) := by decide +kernel
theorem dX7_sketches_95 : decode cX7_sketches 95 = .ok (.iload_n 3, 1) := by decide +kernel
theorem dX7_sketches_96 : decode cX7_sketches 96 = .ok (.isub, 1) := by decide +kernel
theorem dX7_sketches_97 : decode cX7_sketches 97 = .ok (.bipush 64, 2) := by decide +kernel
theorem dX7_sketches_99 : decode cX7_sketches 99 = .ok (.invokestatic 157, 3) := by decide +kernel
theorem dX7_sketches_102 : decode cX7_sketches 102 = .ok (.aload_n 0, 1) := by decide +kernel
theorem dX7_sketches_103 : decode cX7_sketches 103 = .ok (.getfield 19, 3) := by decide +kernel
theorem dX7_sketches_106 : decode cX7_sketches 106 = .ok (.iload 4, 2) := by decide +kernel
theorem dX7_sketches_108 : decode cX7_sketches 108 = .ok (.iload 7, 2) := by decide +kernel
theorem dX7_sketches_110 : decode cX7_sketches 110 = .ok (.invokevirtual 162, 3) := by decide +kernel
theorem dX7_sketches_113 : decode cX7_sketches 113 = .ok (.invokevirtual 122, 3) := by decide +kernel
theorem dX7_sketches_116 : decode cX7_sketches 116 = .ok (.iinc 6 1, 3) := by decide +kernel
theorem dX7_sketches_119 : decode cX7_sketches 119 = .ok (.goto (-65), 3) := by decide +kernel
theorem dX7_sketches_122 : decode cX7_sketches 122 = .ok (.aload_n 0, 1) := by decide +kernel
theorem dX7_sketches_123 : decode cX7_sketches 123 = .ok (.getfield 29, 3) := by decide +kernel
theorem dX7_sketches_126 : decode cX7_sketches 126 = .ok (.getfield 83, 3) := by decide +kernel
theorem dX7_sketches_129 : decode cX7_sketches 129 = .ok (.ireturn, 1) := by decide +kernel
set_option maxRecDepth 20000 in
theorem ggX7_undo_X4_restore : GoodIn wsX7_undo wsX4_restore := goodIn_r _ [10, 11, 12, 13, 14, 15, 16, 17, 18, 19, 20, 21, 31, 32, 33, 44, 45, 46] (by decide +kernel) (by decide +kernel)
set_option maxRecDepth 20000 in
theorem gX7_undo_X4_restore : GoodIn wsX7_undo (wsV RX7 165 RX4 yX4_restore wsX4_restore) := goodIn_app (goodIn_of _ (by decide +kernel)) ggX7_undo_X4_restore
theorem dX7_undo_0 : decode cX7_undo 0 = .ok (.aload_n 0, 1) := by decide +kernel
theorem dX7_undo_1 : decode cX7_undo 1 = .ok (.getfield 36, 3) := by decide +kernel
theorem dX7_undo_4 : decode cX7_undo 4 = .ok (.getfield 86, 3) := by decide +kernel
theorem dX7_undo_7 : decode cX7_undo 7 = .ok (.ifCond .ne 6, 3) := by decide +kernel
theorem dX7_undo_10 : decode cX7_undo 10 = .ok (.bipush (-2), 2) := by decide +kernel
theorem dX7_undo_12 : decode cX7_undo 12 = .ok (.ireturn, 1) := by decide +kernel
theorem dX7_undo_13 : decode cX7_undo 13 = .ok (.aload_n 0, 1) := by decide +kernel
theorem dX7_undo_14 : decode cX7_undo 14 = .ok (.getfield 36, 3) := by decide +kernel
theorem dX7_undo_17 : decode cX7_undo 17 = .ok (.aload_n 0, 1) := by decide +kernel
theorem dX7_undo_18 : decode cX7_undo 18 = .ok (.getfield 29, 3) := by decide +kernel
theorem dX7_undo_21 : decode cX7_undo 21 = .ok (.invokevirtual 165, 3) := by decide +kernel
theorem dX7_undo_24 : decode cX7_undo 24 = .ok (.aload_n 0, 1) := by decide +kernel
theorem dX7_undo_25 : decode cX7_undo 25 = .ok (.getfield 45, 3) := by decide +kernel
theorem dX7_undo_28 : decode cX7_undo 28 = .ok (.iconst 0, 1) := by decide +kernel
theorem dX7_undo_29 : decode cX7_undo 29 = .ok (.putfield 88, 3) := by decide +kernel
theorem dX7_undo_32 : decode cX7_undo 32 = .ok (.aload_n 0, 1) := by decide +kernel
theorem dX7_undo_33 : decode cX7_undo 33 = .ok (.getfield 36, 3) := by decide +kernel
theorem dX7_undo_36 : decode cX7_undo 36 = .ok (.getfield 86, 3) := by decide +kernel
theorem dX7_undo_39 : decode cX7_undo 39 = .ok (.ireturn, 1) := by decide +kernel
set_option maxRecDepth 20000 in
theorem ggX7_seen_X1_isPlace : GoodIn wsX7_seen wsX1_isPlace := goodIn_r _ [6, 7, 8, 9, 10, 31, 32, 33, 34, 35, 36, 37, 38, 39, 40, 41] (by decide +kernel) (by decide +kernel)
set_option maxRecDepth 20000 in
theorem gX7_seen_X1_isPlace : GoodIn wsX7_seen (wsV RX7 137 RX1 yX1_isPlace wsX1_isPlace) := goodIn_app (goodIn_of _ (by decide +kernel)) ggX7_seen_X1_isPlace
set_option maxRecDepth 20000 in
theorem ggX7_seen_X1_hasPeak : GoodIn wsX7_seen wsX1_hasPeak := goodIn_r _ [14, 15, 31, 32, 33, 34, 35, 36, 37, 38, 39, 40, 41] (by decide +kernel) (by decide +kernel)
set_option maxRecDepth 20000 in
theorem gX7_seen_X1_hasPeak : GoodIn wsX7_seen (wsV RX7 92 RX1 yX1_hasPeak wsX1_hasPeak) := goodIn_app (goodIn_of _ (by decide +kernel)) ggX7_seen_X1_hasPeak
set_option maxRecDepth 20000 in
theorem ggX7_seen_X7_pointOf : GoodIn wsX7_seen wsX7_pointOf := goodIn_r _ [10] (by decide +kernel) (by decide +kernel)
set_option maxRecDepth 20000 in
theorem gX7_seen_X7_pointOf : GoodIn wsX7_seen (va_wsS RX7 143 yX7_pointOf wsX7_pointOf) := goodIn_app (goodIn_of _ (by decide +kernel)) ggX7_seen_X7_pointOf
set_option maxRecDepth 20000 in
theorem ggX7_seen_X1_isInSight : GoodIn wsX7_seen wsX1_isInSight := goodIn_r _ [20, 21, 31, 32, 33, 34, 35, 36, 37, 38, 39, 40, 41] (by decide +kernel) (by decide +kernel)
set_option maxRecDepth 20000 in
theorem gX7_seen_X1_isInSight : GoodIn wsX7_seen (wsV RX7 169 RX1 yX1_isInSight wsX1_isInSight) := goodIn_app (goodIn_of _ (by decide +kernel)) ggX7_seen_X1_isInSight
theorem dX7_seen_0 : decode cX7_seen 0 = .ok (.aload_n 0, 1) := by decide +kernel
theorem dX7_seen_1 : decode cX7_seen 1 = .ok (.getfield 19, 3) := by decide +kernel
theorem dX7_seen_4 : decode cX7_seen 4 = .ok (.iload_n 1, 1) := by decide +kernel
theorem dX7_seen_5 : decode cX7_seen 5 = .ok (.iload_n 2, 1) := by decide +kernel
theorem dX7_seen_6 : decode cX7_seen 6 = .ok (.invokevirtual 137, 3) := by decide +kernel
theorem dX7_seen_9 : decode cX7_seen 9 = .ok (.ifCond .eq 14, 3) := by decide +kernel
theorem dX7_seen_12 : decode cX7_seen 12 = .ok (.aload_n 0, 1) := by decide +kernel
theorem dX7_seen_13 : decode cX7_seen 13 = .ok (.getfield 19, 3) := by decide +kernel
theorem dX7_seen_16 : decode cX7_seen 16 = .ok (.iload_n 3, 1) := by decide +kernel
theorem dX7_seen_17 : decode cX7_seen 17 = .ok (.invokevirtual 92, 3) := by decide +kernel
theorem dX7_seen_20 : decode cX7_seen 20 = .ok (.ifCond .ne 5, 3) := by decide +kernel
theorem dX7_seen_23 : decode cX7_seen 23 = .ok (.iconst (-1), 1) := by decide +kernel
theorem dX7_seen_24 : decode cX7_seen 24 = .ok (.ireturn, 1) := by decide +kernel
theorem dX7_seen_25 : decode cX7_seen 25 = .ok (.aload_n 0, 1) := by decide +kernel
theorem dX7_seen_26 : decode cX7_seen 26 = .ok (.getfield 19, 3) := by decide +kernel
theorem dX7_seen_29 : decode cX7_seen 29 = .ok (.iload_n 1, 1) := by decide +kernel
theorem dX7_seen_30 : decode cX7_seen 30 = .ok (.iload_n 2, 1) := by decide +kernel
theorem dX7_seen_31 : decode cX7_seen 31 = .ok (.invokestatic 143, 3) := by decide +kernel
theorem dX7_seen_34 : decode cX7_seen 34 = .ok (.iload_n 3, 1) := by decide +kernel
theorem dX7_seen_35 : decode cX7_seen 35 = .ok (.invokevirtual 169, 3) := by decide +kernel
theorem dX7_seen_38 : decode cX7_seen 38 = .ok (.ifCond .eq 7, 3) := by decide +kernel
theorem dX7_seen_41 : decode cX7_seen 41 = .ok (.iconst 1, 1) := by decide +kernel
theorem dX7_seen_42 : decode cX7_seen 42 = .ok (.goto 4, 3) := by decide +kernel
theorem dX7_seen_45 : decode cX7_seen 45 = .ok (.iconst 0, 1) := by decide +kernel
theorem dX7_seen_46 : decode cX7_seen 46 = .ok (.ireturn, 1) := by decide +kernel
set_option maxRecDepth 20000 in
theorem ggX7_bearing_X1_isPlace : GoodIn wsX7_bearing wsX1_isPlace := goodIn_r _ [6, 7, 8, 9, 10, 48, 49, 50, 51, 52, 53, 54, 55, 56, 57, 58] (by decide +kernel) (by decide +kernel)
set_option maxRecDepth 20000 in
theorem gX7_bearing_X1_isPlace : GoodIn wsX7_bearing (wsV RX7 137 RX1 yX1_isPlace wsX1_isPlace) := goodIn_app (goodIn_of _ (by decide +kernel)) ggX7_bearing_X1_isPlace
set_option maxRecDepth 20000 in
theorem ggX7_bearing_X1_hasPeak : GoodIn wsX7_bearing wsX1_hasPeak := goodIn_r _ [14, 15, 48, 49, 50, 51, 52, 53, 54, 55, 56, 57, 58] (by decide +kernel) (by decide +kernel)
set_option maxRecDepth 20000 in
theorem gX7_bearing_X1_hasPeak : GoodIn wsX7_bearing (wsV RX7 92 RX1 yX1_hasPeak wsX1_hasPeak) := goodIn_app (goodIn_of _ (by decide +kernel)) ggX7_bearing_X1_hasPeak
set_option maxRecDepth 20000 in
theorem ggX7_bearing_X7_pointOf : GoodIn wsX7_bearing wsX7_pointOf := goodIn_r _ [10] (by decide +kernel) (by decide +kernel)
set_option maxRecDepth 20000 in
theorem gX7_bearing_X7_pointOf : GoodIn wsX7_bearing (va_wsS RX7 143 yX7_pointOf wsX7_pointOf) := goodIn_app (goodIn_of _ (by decide +kernel)) ggX7_bearing_X7_pointOf
set_option maxRecDepth 20000 in
theorem ggX7_bearing_X1_bearingFrom : GoodIn wsX7_bearing wsX1_bearingFrom := goodIn_r _ [20, 21, 22, 23, 24, 25, 26, 27, 5, 28, 29, 30, 31, 32, 33, 34, 35, 36, 37, 38, 48, 49, 50, 51, 52, 53, 54, 55, 56, 57, 58] (by decide +kernel) (by decide +kernel)
set_option maxRecDepth 20000 in
theorem gX7_bearing_X1_bearingFrom : GoodIn wsX7_bearing (wsV RX7 154 RX1 yX1_bearingFrom wsX1_bearingFrom) := goodIn_app (goodIn_of _ (by decide +kernel)) ggX7_bearing_X1_bearingFrom
theorem dX7_bearing_0 : decode cX7_bearing 0 = .ok (.aload_n 0, 1) := by decide +kernel
theorem dX7_bearing_1 : decode cX7_bearing 1 = .ok (.getfield 19, 3) := by decide +kernel
theorem dX7_bearing_4 : decode cX7_bearing 4 = .ok (.iload_n 1, 1) := by decide +kernel
theorem dX7_bearing_5 : decode cX7_bearing 5 = .ok (.iload_n 2, 1) := by decide +kernel
theorem dX7_bearing_6 : decode cX7_bearing 6 = .ok (.invokevirtual 137, 3) := by decide +kernel
theorem dX7_bearing_9 : decode cX7_bearing 9 = .ok (.ifCond .eq 14, 3) := by decide +kernel
theorem dX7_bearing_12 : decode cX7_bearing 12 = .ok (.aload_n 0, 1) := by decide +kernel
theorem dX7_bearing_13 : decode cX7_bearing 13 = .ok (.getfield 19, 3) := by decide +kernel
theorem dX7_bearing_16 : decode cX7_bearing 16 = .ok (.iload_n 3, 1) := by decide +kernel
theorem dX7_bearing_17 : decode cX7_bearing 17 = .ok (.invokevirtual 92, 3) := by decide +kernel
theorem dX7_bearing_20 : decode cX7_bearing 20 = .ok (.ifCond .ne 5, 3) := by decide +kernel
theorem dX7_bearing_23 : decode cX7_bearing 23 = .ok (.iconst (-1), 1) := by decide +kernel
theorem dX7_bearing_24 : decode cX7_bearing 24 = .ok (.ireturn, 1) := by decide +kernel
theorem dX7_bearing_25 : decode cX7_bearing 25 = .ok (.aload_n 0, 1) := by decide +kernel
theorem dX7_bearing_26 : decode cX7_bearing 26 = .ok (.getfield 19, 3) := by decide +kernel
theorem dX7_bearing_29 : decode cX7_bearing 29 = .ok (.iload_n 1, 1) := by decide +kernel
theorem dX7_bearing_30 : decode cX7_bearing 30 = .ok (.iload_n 2, 1) := by decide +kernel
theorem dX7_bearing_31 : decode cX7_bearing 31 = .ok (.invokestatic 143, 3) := by decide +kernel
theorem dX7_bearing_34 : decode cX7_bearing 34 = .ok (.iload_n 3, 1) := by decide +kernel
theorem dX7_bearing_35 : decode cX7_bearing 35 = .ok (.invokevirtual 154, 3) := by decide +kernel
theorem dX7_bearing_38 : decode cX7_bearing 38 = .ok (.ireturn, 1) := by decide +kernel
set_option maxRecDepth 20000 in
theorem ggX7_stands_X1_isPlace : GoodIn wsX7_stands wsX1_isPlace := goodIn_r _ [6, 7, 8, 9, 10, 52, 53, 54, 55, 56, 57, 58, 59, 60, 61, 62] (by decide +kernel) (by decide +kernel)
set_option maxRecDepth 20000 in
theorem gX7_stands_X1_isPlace : GoodIn wsX7_stands (wsV RX7 137 RX1 yX1_isPlace wsX1_isPlace) := goodIn_app (goodIn_of _ (by decide +kernel)) ggX7_stands_X1_isPlace
set_option maxRecDepth 20000 in
theorem ggX7_stands_X1_hasPeak : GoodIn wsX7_stands wsX1_hasPeak := goodIn_r _ [14, 15, 52, 53, 54, 55, 56, 57, 58, 59, 60, 61, 62] (by decide +kernel) (by decide +kernel)
set_option maxRecDepth 20000 in
theorem gX7_stands_X1_hasPeak : GoodIn wsX7_stands (wsV RX7 92 RX1 yX1_hasPeak wsX1_hasPeak) := goodIn_app (goodIn_of _ (by decide +kernel)) ggX7_stands_X1_hasPeak
set_option maxRecDepth 20000 in
theorem ggX7_stands_X7_pointOf : GoodIn wsX7_stands wsX7_pointOf := goodIn_r _ [10] (by decide +kernel) (by decide +kernel)
set_option maxRecDepth 20000 in
theorem gX7_stands_X7_pointOf : GoodIn wsX7_stands (va_wsS RX7 143 yX7_pointOf wsX7_pointOf) := goodIn_app (goodIn_of _ (by decide +kernel)) ggX7_stands_X7_pointOf
set_option maxRecDepth 20000 in
theorem ggX7_stands_X1_heightFrom : GoodIn wsX7_stands wsX1_heightFrom := goodIn_r _ [20, 21, 22, 23, 24, 5, 25, 26, 27, 28, 29, 30, 31, 32, 33, 34, 35, 36, 37, 38, 39, 40, 41, 42, 52, 53, 54, 55, 56, 57, 58, 59, 60, 61, 62] (by decide +kernel) (by decide +kernel)
set_option maxRecDepth 20000 in
theorem gX7_stands_X1_heightFrom : GoodIn wsX7_stands (wsV RX7 162 RX1 yX1_heightFrom wsX1_heightFrom) := goodIn_app (goodIn_of _ (by decide +kernel)) ggX7_stands_X1_heightFrom
theorem dX7_stands_0 : decode cX7_stands 0 = .ok (.aload_n 0, 1) := by decide +kernel
theorem dX7_stands_1 : decode cX7_stands 1 = .ok (.getfield 19, 3) := by decide +kernel
theorem dX7_stands_4 : decode cX7_stands 4 = .ok (.iload_n 1, 1) := by decide +kernel
theorem dX7_stands_5 : decode cX7_stands 5 = .ok (.iload_n 2, 1) := by decide +kernel
theorem dX7_stands_6 : decode cX7_stands 6 = .ok (.invokevirtual 137, 3) := by decide +kernel
theorem dX7_stands_9 : decode cX7_stands 9 = .ok (.ifCond .eq 14, 3) := by decide +kernel
theorem dX7_stands_12 : decode cX7_stands 12 = .ok (.aload_n 0, 1) := by decide +kernel
theorem dX7_stands_13 : decode cX7_stands 13 = .ok (.getfield 19, 3) := by decide +kernel
theorem dX7_stands_16 : decode cX7_stands 16 = .ok (.iload_n 3, 1) := by decide +kernel
theorem dX7_stands_17 : decode cX7_stands 17 = .ok (.invokevirtual 92, 3) := by decide +kernel
theorem dX7_stands_20 : decode cX7_stands 20 = .ok (.ifCond .ne 5, 3) := by decide +kernel
theorem dX7_stands_23 : decode cX7_stands 23 = .ok (.iconst (-1), 1) := by decide +kernel
theorem dX7_stands_24 : decode cX7_stands 24 = .ok (.ireturn, 1) := by decide +kernel
theorem dX7_stands_25 : decode cX7_stands 25 = .ok (.aload_n 0, 1) := by decide +kernel
theorem dX7_stands_26 : decode cX7_stands 26 = .ok (.getfield 19, 3) := by decide +kernel
theorem dX7_stands_29 : decode cX7_stands 29 = .ok (.iload_n 1, 1) := by decide +kernel
theorem dX7_stands_30 : decode cX7_stands 30 = .ok (.iload_n 2, 1) := by decide +kernel
theorem dX7_stands_31 : decode cX7_stands 31 = .ok (.invokestatic 143, 3) := by decide +kernel
theorem dX7_stands_34 : decode cX7_stands 34 = .ok (.iload_n 3, 1) := by decide +kernel
theorem dX7_stands_35 : decode cX7_stands 35 = .ok (.invokevirtual 162, 3) := by decide +kernel
theorem dX7_stands_38 : decode cX7_stands 38 = .ok (.ireturn, 1) := by decide +kernel
set_option maxRecDepth 20000 in
theorem ggX7_panorama_X1_isPlace : GoodIn wsX7_panorama wsX1_isPlace := goodIn_r _ [7, 8, 9, 10, 11, 66, 67, 68, 69, 70, 71, 72, 73, 74, 75, 76] (by decide +kernel) (by decide +kernel)
set_option maxRecDepth 20000 in
theorem gX7_panorama_X1_isPlace : GoodIn wsX7_panorama (wsV RX7 137 RX1 yX1_isPlace wsX1_isPlace) := goodIn_app (goodIn_of _ (by decide +kernel)) ggX7_panorama_X1_isPlace
set_option maxRecDepth 20000 in
theorem ggX7_panorama_X7_pointOf : GoodIn wsX7_panorama wsX7_pointOf := goodIn_r _ [11] (by decide +kernel) (by decide +kernel)
set_option maxRecDepth 20000 in
theorem gX7_panorama_X7_pointOf : GoodIn wsX7_panorama (va_wsS RX7 143 yX7_pointOf wsX7_pointOf) := goodIn_app (goodIn_of _ (by decide +kernel)) ggX7_panorama_X7_pointOf
set_option maxRecDepth 20000 in
theorem ggX7_panorama_X1_turnRound : GoodIn wsX7_panorama wsX1_turnRound := goodIn_r _ [16, 17, 18, 19, 20, 21, 6, 22, 23, 24, 25, 26, 27, 28, 29, 30, 31, 32, 33, 34, 35, 36, 37, 38, 39, 40, 41, 42, 43, 44, 45, 46, 47, 48, 49, 50, 51, 52, 53, 54, 55, 56, 66, 67, 68, 69, 70, 71, 72, 73, 74, 75, 76] (by decide +kernel) (by decide +kernel)
set_option maxRecDepth 20000 in
theorem gX7_panorama_X1_turnRound : GoodIn wsX7_panorama (wsV RX7 147 RX1 yX1_turnRound wsX1_turnRound) := goodIn_app (goodIn_of _ (by decide +kernel)) ggX7_panorama_X1_turnRound
theorem dX7_panorama_0 : decode cX7_panorama 0 = .ok (.aload_n 0, 1) := by decide +kernel
theorem dX7_panorama_1 : decode cX7_panorama 1 = .ok (.getfield 19, 3) := by decide +kernel
theorem dX7_panorama_4 : decode cX7_panorama 4 = .ok (.iload_n 1, 1) := by decide +kernel
theorem dX7_panorama_5 : decode cX7_panorama 5 = .ok (.iload_n 2, 1) := by decide +kernel
theorem dX7_panorama_6 : decode cX7_panorama 6 = .ok (.invokevirtual 137, 3) := by decide +kernel
theorem dX7_panorama_9 : decode cX7_panorama 9 = .ok (.ifCond .eq 8, 3) := by decide +kernel
theorem dX7_panorama_12 : decode cX7_panorama 12 = .ok (.iload_n 3, 1) := by decide +kernel
theorem dX7_panorama_13 : decode cX7_panorama 13 = .ok (.iconst (-1), 1) := by decide +kernel
theorem dX7_panorama_14 : decode cX7_panorama 14 = .ok (.if_icmp .ge 5, 3) := by decide +kernel
theorem dX7_panorama_17 : decode cX7_panorama 17 = .ok (.iconst (-1), 1) := by decide +kernel
theorem dX7_panorama_18 : decode cX7_panorama 18 = .ok (.ireturn, 1) := by decide +kernel
theorem dX7_panorama_19 : decode cX7_panorama 19 = .ok (.aload_n 0, 1) := by decide +kernel
theorem dX7_panorama_20 : decode cX7_panorama 20 = .ok (.getfield 19, 3) := by decide +kernel
theorem dX7_panorama_23 : decode cX7_panorama 23 = .ok (.iload_n 1, 1) := by decide +kernel
theorem dX7_panorama_24 : decode cX7_panorama 24 = .ok (.iload_n 2, 1) := by decide +kernel
theorem dX7_panorama_25 : decode cX7_panorama 25 = .ok (.invokestatic 143, 3) := by decide +kernel
theorem dX7_panorama_28 : decode cX7_panorama 28 = .ok (.invokevirtual 147, 3) := by decide +kernel
theorem dX7_panorama_31 : decode cX7_panorama 31 = .ok (.istore 4, 2) := by decide +kernel
theorem dX7_panorama_33 : decode cX7_panorama 33 = .ok (.iload_n 3, 1) := by decide +kernel
theorem dX7_panorama_34 : decode cX7_panorama 34 = .ok (.iconst (-1), 1) := by decide +kernel
theorem dX7_panorama_35 : decode cX7_panorama 35 = .ok (.if_icmp .ne 6, 3) := by decide +kernel
theorem dX7_panorama_38 : decode cX7_panorama 38 = .ok (.iload 4, 2) := by decide +kernel
theorem dX7_panorama_40 : decode cX7_panorama 40 = .ok (.ireturn, 1) := by decide +kernel
theorem dX7_panorama_41 : decode cX7_panorama 41 = .ok (.iload_n 3, 1) := by decide +kernel
theorem dX7_panorama_42 : decode cX7_panorama 42 = .ok (.iload 4, 2) := by decide +kernel
theorem dX7_panorama_44 : decode cX7_panorama 44 = .ok (.if_icmp .ge 15, 3) := by decide +kernel
theorem dX7_panorama_47 : decode cX7_panorama 47 = .ok (.aload_n 0, 1) := by decide +kernel
theorem dX7_panorama_48 : decode cX7_panorama 48 = .ok (.getfield 19, 3) := by decide +kernel
theorem dX7_panorama_51 : decode cX7_panorama 51 = .ok (.getfield 151, 3) := by decide +kernel
theorem dX7_panorama_54 : decode cX7_panorama 54 = .ok (.iload_n 3, 1) := by decide +kernel
theorem dX7_panorama_55 : decode cX7_panorama 55 = .ok (.iaload, 1) := by decide +kernel
theorem dX7_panorama_56 : decode cX7_panorama 56 = .ok (.goto 5, 3) := by decide +kernel
theorem dX7_panorama_59 : decode cX7_panorama 59 = .ok (.bipush (-9), 2) := by decide +kernel
theorem dX7_panorama_61 : decode cX7_panorama 61 = .ok (.ireturn, 1) := by decide +kernel
set_option maxRecDepth 20000 in
theorem ggX7_notch_X3_has : GoodIn wsX7_notch wsX3_has := goodIn_r _ [8, 9, 19, 20, 21] (by decide +kernel) (by decide +kernel)
set_option maxRecDepth 20000 in
theorem gX7_notch_X3_has : GoodIn wsX7_notch (wsV RX7 125 RX3 yX3_has wsX3_has) := goodIn_app (goodIn_of _ (by decide +kernel)) ggX7_notch_X3_has
theorem dX7_notch_0 : decode cX7_notch 0 = .ok (.aload_n 0, 1) := by decide +kernel
theorem dX7_notch_1 : decode cX7_notch 1 = .ok (.getfield 29, 3) := by decide +kernel
theorem dX7_notch_4 : decode cX7_notch 4 = .ok (.iload_n 1, 1) := by decide +kernel
theorem dX7_notch_5 : decode cX7_notch 5 = .ok (.invokevirtual 125, 3) := by decide +kernel
theorem dX7_notch_8 : decode cX7_notch 8 = .ok (.ifCond .ne 5, 3) := by decide +kernel
theorem dX7_notch_11 : decode cX7_notch 11 = .ok (.iconst (-1), 1) := by decide +kernel
theorem dX7_notch_12 : decode cX7_notch 12 = .ok (.ireturn, 1) := by decide +kernel
theorem dX7_notch_13 : decode cX7_notch 13 = .ok (.iload_n 2, 1) := by decide +kernel
theorem dX7_notch_14 : decode cX7_notch 14 = .ok (.lookupswitch 46 #[(0, 26), (1, 36)], 26) := by decide +kernel
theorem dX7_notch_40 : decode cX7_notch 40 = .ok (.aload_n 0, 1) := by decide +kernel
theorem dX7_notch_41 : decode cX7_notch 41 = .ok (.getfield 29, 3) := by decide +kernel
theorem dX7_notch_44 : decode cX7_notch 44 = .ok (.getfield 131, 3) := by decide +kernel
theorem dX7_notch_47 : decode cX7_notch 47 = .ok (.iload_n 1, 1) := by decide +kernel
theorem dX7_notch_48 : decode cX7_notch 48 = .ok (.iaload, 1) := by decide +kernel
theorem dX7_notch_49 : decode cX7_notch 49 = .ok (.ireturn, 1) := by decide +kernel
theorem dX7_notch_50 : decode cX7_notch 50 = .ok (.aload_n 0, 1) := by decide +kernel
theorem dX7_notch_51 : decode cX7_notch 51 = .ok (.getfield 29, 3) := by decide +kernel
theorem dX7_notch_54 : decode cX7_notch 54 = .ok (.getfield 134, 3) := by decide +kernel
theorem dX7_notch_57 : decode cX7_notch 57 = .ok (.iload_n 1, 1) := by decide +kernel
theorem dX7_notch_58 : decode cX7_notch 58 = .ok (.iaload, 1) := by decide +kernel
theorem dX7_notch_59 : decode cX7_notch 59 = .ok (.ireturn, 1) := by decide +kernel
theorem dX7_notch_60 : decode cX7_notch 60 = .ok (.iconst (-1), 1) := by decide +kernel
theorem dX7_notch_61 : decode cX7_notch 61 = .ok (.ireturn, 1) := by decide +kernel
set_option maxRecDepth 20000 in
theorem ggX7_fits_X1_isPlace : GoodIn wsX7_fits wsX1_isPlace := goodIn_r _ [8, 9, 10, 11, 12, 100, 101, 102, 103, 104, 105, 106, 107, 108, 109, 110] (by decide +kernel) (by decide +kernel)
set_option maxRecDepth 20000 in
theorem gX7_fits_X1_isPlace : GoodIn wsX7_fits (wsV RX7 137 RX1 yX1_isPlace wsX1_isPlace) := goodIn_app (goodIn_of _ (by decide +kernel)) ggX7_fits_X1_isPlace
set_option maxRecDepth 20000 in
theorem ggX7_fits_X7_isLook : GoodIn wsX7_fits wsX7_isLook := goodIn_r _ [15] (by decide +kernel) (by decide +kernel)
set_option maxRecDepth 20000 in
theorem gX7_fits_X7_isLook : GoodIn wsX7_fits (va_wsS RX7 140 yX7_isLook wsX7_isLook) := goodIn_app (goodIn_of _ (by decide +kernel)) ggX7_fits_X7_isLook
set_option maxRecDepth 20000 in
theorem ggX7_fits_X3_has : GoodIn wsX7_fits wsX3_has := goodIn_r _ [20, 21, 111, 112, 113] (by decide +kernel) (by decide +kernel)
set_option maxRecDepth 20000 in
theorem gX7_fits_X3_has : GoodIn wsX7_fits (wsV RX7 125 RX3 yX3_has wsX3_has) := goodIn_app (goodIn_of _ (by decide +kernel)) ggX7_fits_X3_has
set_option maxRecDepth 20000 in
theorem ggX7_fits_X1_hasPeak : GoodIn wsX7_fits wsX1_hasPeak := goodIn_r _ [25, 26, 100, 101, 102, 103, 104, 105, 106, 107, 108, 109, 110] (by decide +kernel) (by decide +kernel)
set_option maxRecDepth 20000 in
theorem gX7_fits_X1_hasPeak : GoodIn wsX7_fits (wsV RX7 92 RX1 yX1_hasPeak wsX1_hasPeak) := goodIn_app (goodIn_of _ (by decide +kernel)) ggX7_fits_X1_hasPeak
set_option maxRecDepth 20000 in
theorem ggX7_fits_X7_pointOf : GoodIn wsX7_fits wsX7_pointOf := goodIn_r _ [12] (by decide +kernel) (by decide +kernel)
set_option maxRecDepth 20000 in
theorem gX7_fits_X7_pointOf : GoodIn wsX7_fits (va_wsS RX7 143 yX7_pointOf wsX7_pointOf) := goodIn_app (goodIn_of _ (by decide +kernel)) ggX7_fits_X7_pointOf
set_option maxRecDepth 20000 in
theorem ggX7_fits_X6_standAt : GoodIn wsX7_fits wsX6_standAt := goodIn_r _ [32, 33, 34, 35, 36, 37, 38, 39, 40, 41, 42, 43, 44, 45, 46, 47, 48, 7, 49, 50, 51, 52, 53, 54, 55, 56, 57, 58, 59, 60, 61, 62, 63, 64, 65, 66, 67, 68, 69, 70, 71, 72, 73, 74, 75, 76, 77, 78, 79, 31, 80, 81, 82, 83, 114, 115, 116, 117, 118, 119, 120, 121, 122, 123, 100, 101, 102, 103, 104, 105, 106, 107, 108, 109, 110, 111, 112, 113] (by decide +kernel) (by decide +kernel)
set_option maxRecDepth 20000 in
theorem gX7_fits_X6_standAt : GoodIn wsX7_fits (wsV RX7 172 RX6 yX6_standAt wsX6_standAt) := goodIn_app (goodIn_of _ (by decide +kernel)) ggX7_fits_X6_standAt
set_option maxRecDepth 20000 in
theorem ggX7_fits_X6_fitting : GoodIn wsX7_fits wsX6_fitting := goodIn_r _ [87, 33, 35, 45, 88, 89, 31, 90, 114, 115, 116, 117, 118, 119, 120, 121, 122, 123, 100, 101, 102, 103, 104, 105, 106, 107, 108, 109, 110] (by decide +kernel) (by decide +kernel)
set_option maxRecDepth 20000 in
theorem gX7_fits_X6_fitting : GoodIn wsX7_fits (wsV RX7 176 RX6 yX6_fitting wsX6_fitting) := goodIn_app (goodIn_of _ (by decide +kernel)) ggX7_fits_X6_fitting
theorem dX7_fits_0 : decode cX7_fits 0 = .ok (.aload_n 0, 1) := by decide +kernel
theorem dX7_fits_1 : decode cX7_fits 1 = .ok (.getfield 19, 3) := by decide +kernel
theorem dX7_fits_4 : decode cX7_fits 4 = .ok (.iload_n 1, 1) := by decide +kernel
theorem dX7_fits_5 : decode cX7_fits 5 = .ok (.iload_n 2, 1) := by decide +kernel
theorem dX7_fits_6 : decode cX7_fits 6 = .ok (.invokevirtual 137, 3) := by decide +kernel
theorem dX7_fits_9 : decode cX7_fits 9 = .ok (.ifCond .eq 34, 3) := by decide +kernel
theorem dX7_fits_12 : decode cX7_fits 12 = .ok (.iload_n 3, 1) := by decide +kernel
theorem dX7_fits_13 : decode cX7_fits 13 = .ok (.invokestatic 140, 3) := by decide +kernel
theorem dX7_fits_16 : decode cX7_fits 16 = .ok (.ifCond .eq 27, 3) := by decide +kernel
theorem dX7_fits_19 : decode cX7_fits 19 = .ok (.aload_n 0, 1) := by decide +kernel
theorem dX7_fits_20 : decode cX7_fits 20 = .ok (.getfield 29, 3) := by decide +kernel
theorem dX7_fits_23 : decode cX7_fits 23 = .ok (.iload 4, 2) := by decide +kernel
theorem dX7_fits_25 : decode cX7_fits 25 = .ok (.invokevirtual 125, 3) := by decide +kernel
theorem dX7_fits_28 : decode cX7_fits 28 = .ok (.ifCond .eq 15, 3) := by decide +kernel
theorem dX7_fits_31 : decode cX7_fits 31 = .ok (.aload_n 0, 1) := by decide +kernel
theorem dX7_fits_32 : decode cX7_fits 32 = .ok (.getfield 19, 3) := by decide +kernel
theorem dX7_fits_35 : decode cX7_fits 35 = .ok (.iload 5, 2) := by decide +kernel
theorem dX7_fits_37 : decode cX7_fits 37 = .ok (.invokevirtual 92, 3) := by decide +kernel
theorem dX7_fits_40 : decode cX7_fits 40 = .ok (.ifCond .ne 5, 3) := by decide +kernel
theorem dX7_fits_43 : decode cX7_fits 43 = .ok (.iconst (-1), 1) := by decide +kernel
theorem dX7_fits_44 : decode cX7_fits 44 = .ok (.ireturn, 1) := by decide +kernel
theorem dX7_fits_45 : decode cX7_fits 45 = .ok (.aload_n 0, 1) := by decide +kernel
theorem dX7_fits_46 : decode cX7_fits 46 = .ok (.getfield 45, 3) := by decide +kernel
theorem dX7_fits_49 : decode cX7_fits 49 = .ok (.iload_n 1, 1) := by decide +kernel
theorem dX7_fits_50 : decode cX7_fits 50 = .ok (.iload_n 2, 1) := by decide +kernel
theorem dX7_fits_51 : decode cX7_fits 51 = .ok (.invokestatic 143, 3) := by decide +kernel
theorem dX7_fits_54 : decode cX7_fits 54 = .ok (.iconst 1, 1) := by decide +kernel
theorem dX7_fits_55 : decode cX7_fits 55 = .ok (.iload 5, 2) := by decide +kernel
theorem dX7_fits_57 : decode cX7_fits 57 = .ok (.ishl, 1) := by decide +kernel
theorem dX7_fits_58 : decode cX7_fits 58 = .ok (.invokevirtual 172, 3) := by decide +kernel
theorem dX7_fits_61 : decode cX7_fits 61 = .ok (.pop2, 1) := by decide +kernel
theorem dX7_fits_62 : decode cX7_fits 62 = .ok (.aload_n 0, 1) := by decide +kernel
theorem dX7_fits_63 : decode cX7_fits 63 = .ok (.getfield 45, 3) := by decide +kernel
theorem dX7_fits_66 : decode cX7_fits 66 = .ok (.iload_n 3, 1) := by decide +kernel
theorem dX7_fits_67 : decode cX7_fits 67 = .ok (.iload 4, 2) := by decide +kernel
theorem dX7_fits_69 : decode cX7_fits 69 = .ok (.invokevirtual 176, 3) := by decide +kernel
theorem dX7_fits_72 : decode cX7_fits 72 = .ok (.ifCond .eq 7, 3) := by decide +kernel
theorem dX7_fits_75 : decode cX7_fits 75 = .ok (.iconst 1, 1) := by decide +kernel
theorem dX7_fits_76 : decode cX7_fits 76 = .ok (.goto 4, 3) := by decide +kernel
theorem dX7_fits_79 : decode cX7_fits 79 = .ok (.iconst 0, 1) := by decide +kernel
theorem dX7_fits_80 : decode cX7_fits 80 = .ok (.ireturn, 1) := by decide +kernel
set_option maxRecDepth 20000 in
theorem ggX7_score_X1_isPlace : GoodIn wsX7_score wsX1_isPlace := goodIn_r _ [7, 8, 9, 10, 11, 119, 120, 121, 122, 123, 124, 125, 126, 127, 128, 129] (by decide +kernel) (by decide +kernel)
set_option maxRecDepth 20000 in
theorem gX7_score_X1_isPlace : GoodIn wsX7_score (wsV RX7 137 RX1 yX1_isPlace wsX1_isPlace) := goodIn_app (goodIn_of _ (by decide +kernel)) ggX7_score_X1_isPlace
set_option maxRecDepth 20000 in
theorem ggX7_score_X7_isLook : GoodIn wsX7_score wsX7_isLook := goodIn_r _ [14] (by decide +kernel) (by decide +kernel)
set_option maxRecDepth 20000 in
theorem gX7_score_X7_isLook : GoodIn wsX7_score (va_wsS RX7 140 yX7_isLook wsX7_isLook) := goodIn_app (goodIn_of _ (by decide +kernel)) ggX7_score_X7_isLook
set_option maxRecDepth 20000 in
theorem ggX7_score_X7_pointOf : GoodIn wsX7_score wsX7_pointOf := goodIn_r _ [11] (by decide +kernel) (by decide +kernel)
set_option maxRecDepth 20000 in
theorem gX7_score_X7_pointOf : GoodIn wsX7_score (va_wsS RX7 143 yX7_pointOf wsX7_pointOf) := goodIn_app (goodIn_of _ (by decide +kernel)) ggX7_score_X7_pointOf
set_option maxRecDepth 20000 in
theorem ggX7_score_X1_allPeaks : GoodIn wsX7_score wsX1_allPeaks := goodIn_r _ [19, 20, 119, 120, 121, 122, 123, 124, 125, 126, 127, 128, 129] (by decide +kernel) (by decide +kernel)
set_option maxRecDepth 20000 in
theorem gX7_score_X1_allPeaks : GoodIn wsX7_score (wsV RX7 179 RX1 yX1_allPeaks wsX1_allPeaks) := goodIn_app (goodIn_of _ (by decide +kernel)) ggX7_score_X1_allPeaks
set_option maxRecDepth 20000 in
theorem ggX7_score_X6_scoreWith : GoodIn wsX7_score wsX6_scoreWith := goodIn_r _ [25, 26, 27, 28, 24, 29, 30, 31, 32, 33, 34, 35, 36, 37, 38, 39, 40, 41, 42, 43, 44, 45, 6, 46, 47, 48, 49, 50, 51, 52, 53, 54, 55, 56, 57, 58, 59, 60, 61, 62, 63, 64, 65, 66, 67, 68, 69, 70, 71, 72, 73, 74, 75, 76, 77, 78, 79, 80, 81, 82, 83, 84, 85, 86, 87, 88, 89, 90, 91, 92, 93, 94, 95, 96, 97, 98, 99, 100, 101, 102, 103, 104, 105, 106, 107, 108, 109, 130, 131, 132, 133, 134, 135, 136, 137, 138, 139, 119, 120, 121, 122, 123, 124, 125, 126, 127, 128, 129, 140, 141, 142, 143, 144, 145] (by decide +kernel) (by decide +kernel)
set_option maxRecDepth 20000 in
theorem gX7_score_X6_scoreWith : GoodIn wsX7_score (wsV RX7 183 RX6 yX6_scoreWith wsX6_scoreWith) := goodIn_app (goodIn_of _ (by decide +kernel)) ggX7_score_X6_scoreWith
theorem dX7_score_0 : decode cX7_score 0 = .ok (.aload_n 0, 1) := by decide +kernel
theorem dX7_score_1 : decode cX7_score 1 = .ok (.getfield 19, 3) := by decide +kernel
theorem dX7_score_4 : decode cX7_score 4 = .ok (.iload_n 1, 1) := by decide +kernel
theorem dX7_score_5 : decode cX7_score 5 = .ok (.iload_n 2, 1) := by decide +kernel
theorem dX7_score_6 : decode cX7_score 6 = .ok (.invokevirtual 137, 3) := by decide +kernel
theorem dX7_score_9 : decode cX7_score 9 = .ok (.ifCond .eq 10, 3) := by decide +kernel
theorem dX7_score_12 : decode cX7_score 12 = .ok (.iload_n 3, 1) := by decide +kernel
theorem dX7_score_13 : decode cX7_score 13 = .ok (.invokestatic 140, 3) := by decide +kernel
theorem dX7_score_16 : decode cX7_score 16 = .ok (.ifCond .ne 5, 3) := by decide +kernel
theorem dX7_score_19 : decode cX7_score 19 = .ok (.iconst (-1), 1) := by decide +kernel
theorem dX7_score_20 : decode cX7_score 20 = .ok (.ireturn, 1) := by decide +kernel
theorem dX7_score_21 : decode cX7_score 21 = .ok (.aload_n 0, 1) := by decide +kernel
theorem dX7_score_22 : decode cX7_score 22 = .ok (.getfield 45, 3) := by decide +kernel
theorem dX7_score_25 : decode cX7_score 25 = .ok (.iload_n 1, 1) := by decide +kernel
theorem dX7_score_26 : decode cX7_score 26 = .ok (.iload_n 2, 1) := by decide +kernel
theorem dX7_score_27 : decode cX7_score 27 = .ok (.invokestatic 143, 3) := by decide +kernel
theorem dX7_score_30 : decode cX7_score 30 = .ok (.iload_n 3, 1) := by decide +kernel
theorem dX7_score_31 : decode cX7_score 31 = .ok (.aload_n 0, 1) := by decide +kernel
theorem dX7_score_32 : decode cX7_score 32 = .ok (.getfield 19, 3) := by decide +kernel
theorem dX7_score_35 : decode cX7_score 35 = .ok (.invokevirtual 179, 3) := by decide +kernel
theorem dX7_score_38 : decode cX7_score 38 = .ok (.invokevirtual 183, 3) := by decide +kernel
theorem dX7_score_41 : decode cX7_score 41 = .ok (.ireturn, 1) := by decide +kernel
set_option maxRecDepth 20000 in
theorem ggX7_wholes_X6_know : GoodIn wsX7_wholes wsX6_know := goodIn_r _ [7, 8, 9, 10, 11, 12, 13, 14, 15, 16, 17, 18, 19, 20, 21, 22, 6, 23, 24, 25, 26, 27, 28, 29, 30, 31, 32, 33, 34, 35, 36, 37, 38, 39, 40, 41, 42, 43, 44, 45, 46, 47, 48, 49, 50, 51, 52, 53, 54, 55, 56, 57, 58, 59, 60, 61, 62, 63, 64, 65, 66, 67, 68, 69, 70, 71, 72, 73, 74, 75, 76, 77, 78, 79, 80, 81, 82, 83, 84, 85, 86, 87, 88, 89, 90, 91, 92, 93, 94, 95, 96, 97, 98, 99, 100, 101, 102, 103, 104, 105, 106, 107, 117, 118, 119, 120, 121, 122, 123, 124, 125, 126, 127, 128, 129, 130, 131, 132, 133, 134, 135, 136, 137, 138, 139, 140, 141, 142, 143] (by decide +kernel) (by decide +kernel)
set_option maxRecDepth 20000 in
theorem gX7_wholes_X6_know : GoodIn wsX7_wholes (wsV RX7 187 RX6 yX6_know wsX6_know) := goodIn_app (goodIn_of _ (by decide +kernel)) ggX7_wholes_X6_know
theorem dX7_wholes_0 : decode cX7_wholes 0 = .ok (.aload_n 0, 1) := by decide +kernel
theorem dX7_wholes_1 : decode cX7_wholes 1 = .ok (.getfield 45, 3) := by decide +kernel
theorem dX7_wholes_4 : decode cX7_wholes 4 = .ok (.invokevirtual 187, 3) := by decide +kernel
theorem dX7_wholes_7 : decode cX7_wholes 7 = .ok (.aload_n 0, 1) := by decide +kernel
theorem dX7_wholes_8 : decode cX7_wholes 8 = .ok (.getfield 45, 3) := by decide +kernel
theorem dX7_wholes_11 : decode cX7_wholes 11 = .ok (.getfield 190, 3) := by decide +kernel
theorem dX7_wholes_14 : decode cX7_wholes 14 = .ok (.ireturn, 1) := by decide +kernel
set_option maxRecDepth 20000 in
theorem ggX7_whole_X6_wholeView : GoodIn wsX7_whole wsX6_wholeView := goodIn_r _ [6, 7, 8, 9, 10, 11, 12, 13, 5, 14, 15, 16, 17, 18, 19, 20, 21, 22, 23, 24, 25, 26, 27, 28, 29, 30, 31, 32, 33, 34, 35, 36, 37, 38, 39, 40, 41, 42, 43, 44, 45, 46, 47, 48, 49, 50, 51, 52, 53, 54, 55, 56, 57, 58, 59, 60, 61, 62, 63, 64, 65, 66, 67, 68, 69, 70, 71, 72, 73, 74, 75, 76, 77, 78, 79, 80, 81, 82, 83, 84, 85, 86, 87, 88, 89, 90, 91, 92, 93, 94, 95, 96, 97, 98, 99, 100, 101, 102, 103, 104, 105, 106, 107, 108, 109, 110, 124, 125, 126, 127, 128, 129, 130, 131, 132, 133, 134, 135, 136, 137, 138, 139, 140, 141, 142, 143, 144, 145, 146, 147, 148, 149, 150] (by decide +kernel) (by decide +kernel)
set_option maxRecDepth 20000 in
theorem gX7_whole_X6_wholeView : GoodIn wsX7_whole (wsV RX7 193 RX6 yX6_wholeView wsX6_wholeView) := goodIn_app (goodIn_of _ (by decide +kernel)) ggX7_whole_X6_wholeView
set_option maxRecDepth 20000 in
theorem ggX7_whole_X7_partOf : GoodIn wsX7_whole wsX7_partOf := goodIn_r _ [114] (by decide +kernel) (by decide +kernel)
set_option maxRecDepth 20000 in
theorem gX7_whole_X7_partOf : GoodIn wsX7_whole (va_wsS RX7 196 yX7_partOf wsX7_partOf) := goodIn_app (goodIn_of _ (by decide +kernel)) ggX7_whole_X7_partOf
theorem dX7_whole_0 : decode cX7_whole 0 = .ok (.iload_n 1, 1) := by decide +kernel
theorem dX7_whole_1 : decode cX7_whole 1 = .ok (.ifCond .lt 12, 3) := by decide +kernel
theorem dX7_whole_4 : decode cX7_whole 4 = .ok (.iload_n 2, 1) := by decide +kernel
theorem dX7_whole_5 : decode cX7_whole 5 = .ok (.ifCond .lt 8, 3) := by decide +kernel
theorem dX7_whole_8 : decode cX7_whole 8 = .ok (.iload_n 2, 1) := by decide +kernel
theorem dX7_whole_9 : decode cX7_whole 9 = .ok (.iconst 2, 1) := by decide +kernel
theorem dX7_whole_10 : decode cX7_whole 10 = .ok (.if_icmp .le 5, 3) := by decide +kernel
theorem dX7_whole_13 : decode cX7_whole 13 = .ok (.iconst (-1), 1) := by decide +kernel
theorem dX7_whole_14 : decode cX7_whole 14 = .ok (.ireturn, 1) := by decide +kernel
theorem dX7_whole_15 : decode cX7_whole 15 = .ok (.aload_n 0, 1) := by decide +kernel
theorem dX7_whole_16 : decode cX7_whole 16 = .ok (.getfield 45, 3) := by decide +kernel
theorem dX7_whole_19 : decode cX7_whole 19 = .ok (.iload_n 1, 1) := by decide +kernel
theorem dX7_whole_20 : decode cX7_whole 20 = .ok (.invokevirtual 193, 3) := by decide +kernel
theorem dX7_whole_23 : decode cX7_whole 23 = .ok (.istore_n 3, 1) := by decide +kernel
theorem dX7_whole_24 : decode cX7_whole 24 = .ok (.iload_n 3, 1) := by decide +kernel
theorem dX7_whole_25 : decode cX7_whole 25 = .ok (.bipush (-9), 2) := by decide +kernel
theorem dX7_whole_27 : decode cX7_whole 27 = .ok (.if_icmp .ne 8, 3) := by decide +kernel
theorem dX7_whole_30 : decode cX7_whole 30 = .ok (.bipush (-9), 2) := by decide +kernel
theorem dX7_whole_32 : decode cX7_whole 32 = .ok (.goto 8, 3) := by decide +kernel
theorem dX7_whole_35 : decode cX7_whole 35 = .ok (.iload_n 3, 1) := by decide +kernel
theorem dX7_whole_36 : decode cX7_whole 36 = .ok (.iload_n 2, 1) := by decide +kernel
theorem dX7_whole_37 : decode cX7_whole 37 = .ok (.invokestatic 196, 3) := by decide +kernel
theorem dX7_whole_40 : decode cX7_whole 40 = .ok (.ireturn, 1) := by decide +kernel
set_option maxRecDepth 20000 in
theorem ggX7_best_X6_know : GoodIn wsX7_best wsX6_know := goodIn_r _ [8, 9, 10, 11, 12, 13, 14, 15, 16, 17, 18, 19, 20, 21, 22, 23, 7, 24, 25, 26, 27, 28, 29, 30, 31, 32, 33, 34, 35, 36, 37, 38, 39, 40, 41, 42, 43, 44, 45, 46, 47, 48, 49, 50, 51, 52, 53, 54, 55, 56, 57, 58, 59, 60, 61, 62, 63, 64, 65, 66, 67, 68, 69, 70, 71, 72, 73, 74, 75, 76, 77, 78, 79, 80, 81, 82, 83, 84, 85, 86, 87, 88, 89, 90, 91, 92, 93, 94, 95, 96, 97, 98, 99, 100, 101, 102, 103, 104, 105, 106, 107, 108, 122, 123, 124, 125, 126, 127, 128, 129, 130, 131, 132, 133, 134, 135, 136, 137, 138, 139, 140, 141, 142, 143, 144, 145, 146, 147, 148] (by decide +kernel) (by decide +kernel)
set_option maxRecDepth 20000 in
theorem gX7_best_X6_know : GoodIn wsX7_best (wsV RX7 187 RX6 yX6_know wsX6_know) := goodIn_app (goodIn_of _ (by decide +kernel)) ggX7_best_X6_know
set_option maxRecDepth 20000 in
theorem ggX7_best_X7_partOf : GoodIn wsX7_best wsX7_partOf := goodIn_r _ [112] (by decide +kernel) (by decide +kernel)
set_option maxRecDepth 20000 in
theorem gX7_best_X7_partOf : GoodIn wsX7_best (va_wsS RX7 196 yX7_partOf wsX7_partOf) := goodIn_app (goodIn_of _ (by decide +kernel)) ggX7_best_X7_partOf
theorem dX7_best_0 : decode cX7_best 0 = .ok (.iload_n 1, 1) := by decide +kernel
theorem dX7_best_1 : decode cX7_best 1 = .ok (.ifCond .lt 8, 3) := by decide +kernel
theorem dX7_best_4 : decode cX7_best 4 = .ok (.iload_n 1, 1) := by decide +kernel
theorem dX7_best_5 : decode cX7_best 5 = .ok (.iconst 3, 1) := by decide +kernel
theorem dX7_best_6 : decode cX7_best 6 = .ok (.if_icmp .le 5, 3) := by decide +kernel
theorem dX7_best_9 : decode cX7_best 9 = .ok (.iconst (-1), 1) := by decide +kernel
theorem dX7_best_10 : decode cX7_best 10 = .ok (.ireturn, 1) := by decide +kernel
theorem dX7_best_11 : decode cX7_best 11 = .ok (.aload_n 0, 1) := by decide +kernel
theorem dX7_best_12 : decode cX7_best 12 = .ok (.getfield 45, 3) := by decide +kernel
theorem dX7_best_15 : decode cX7_best 15 = .ok (.invokevirtual 187, 3) := by decide +kernel
theorem dX7_best_18 : decode cX7_best 18 = .ok (.aload_n 0, 1) := by decide +kernel
theorem dX7_best_19 : decode cX7_best 19 = .ok (.getfield 45, 3) := by decide +kernel
theorem dX7_best_22 : decode cX7_best 22 = .ok (.getfield 199, 3) := by decide +kernel
theorem dX7_best_25 : decode cX7_best 25 = .ok (.bipush (-9), 2) := by decide +kernel
theorem dX7_best_27 : decode cX7_best 27 = .ok (.if_icmp .ne 6, 3) := by decide +kernel
theorem dX7_best_30 : decode cX7_best 30 = .ok (.bipush (-9), 2) := by decide +kernel
theorem dX7_best_32 : decode cX7_best 32 = .ok (.ireturn, 1) := by decide +kernel
theorem dX7_best_33 : decode cX7_best 33 = .ok (.iload_n 1, 1) := by decide +kernel
theorem dX7_best_34 : decode cX7_best 34 = .ok (.iconst 3, 1) := by decide +kernel
theorem dX7_best_35 : decode cX7_best 35 = .ok (.if_icmp .ne 13, 3) := by decide +kernel
theorem dX7_best_38 : decode cX7_best 38 = .ok (.aload_n 0, 1) := by decide +kernel
theorem dX7_best_39 : decode cX7_best 39 = .ok (.getfield 45, 3) := by decide +kernel
theorem dX7_best_42 : decode cX7_best 42 = .ok (.getfield 202, 3) := by decide +kernel
theorem dX7_best_45 : decode cX7_best 45 = .ok (.goto 14, 3) := by decide +kernel
theorem dX7_best_48 : decode cX7_best 48 = .ok (.aload_n 0, 1) := by decide +kernel
theorem dX7_best_49 : decode cX7_best 49 = .ok (.getfield 45, 3) := by decide +kernel
theorem dX7_best_52 : decode cX7_best 52 = .ok (.getfield 199, 3) := by decide +kernel
theorem dX7_best_55 : decode cX7_best 55 = .ok (.iload_n 1, 1) := by decide +kernel
theorem dX7_best_56 : decode cX7_best 56 = .ok (.invokestatic 196, 3) := by decide +kernel
theorem dX7_best_59 : decode cX7_best 59 = .ok (.ireturn, 1) := by decide +kernel
set_option maxRecDepth 20000 in
theorem ggX7_doubt_X6_bestPlaces : GoodIn wsX7_doubt wsX6_bestPlaces := goodIn_r _ [6, 7, 8, 9, 10, 11, 5, 12, 13, 14, 15, 16, 17, 18, 19, 20, 21, 22, 23, 24, 25, 26, 27, 28, 29, 30, 31, 32, 33, 34, 35, 36, 37, 38, 39, 40, 41, 42, 43, 44, 45, 46, 47, 48, 49, 50, 51, 52, 53, 54, 55, 56, 57, 58, 59, 60, 61, 62, 63, 64, 65, 66, 67, 68, 69, 70, 71, 72, 73, 74, 75, 76, 77, 78, 79, 80, 81, 82, 83, 84, 85, 86, 87, 88, 89, 90, 91, 92, 93, 94, 95, 96, 97, 98, 99, 100, 101, 102, 103, 104, 105, 106, 107, 108, 109, 110, 111, 112, 113, 114, 124, 125, 126, 127, 128, 129, 130, 131, 132, 133, 134, 135, 136, 137, 138, 139, 140, 141, 142, 143, 144, 145, 146, 147, 148, 149, 150] (by decide +kernel) (by decide +kernel)
set_option maxRecDepth 20000 in
theorem gX7_doubt_X6_bestPlaces : GoodIn wsX7_doubt (wsV RX7 205 RX6 yX6_bestPlaces wsX6_bestPlaces) := goodIn_app (goodIn_of _ (by decide +kernel)) ggX7_doubt_X6_bestPlaces
theorem dX7_doubt_0 : decode cX7_doubt 0 = .ok (.aload_n 0, 1) := by decide +kernel
theorem dX7_doubt_1 : decode cX7_doubt 1 = .ok (.getfield 45, 3) := by decide +kernel
theorem dX7_doubt_4 : decode cX7_doubt 4 = .ok (.invokevirtual 205, 3) := by decide +kernel
theorem dX7_doubt_7 : decode cX7_doubt 7 = .ok (.ireturn, 1) := by decide +kernel
set_option maxRecDepth 20000 in
theorem ggX7_odd_X6_oddNotch : GoodIn wsX7_odd wsX6_oddNotch := goodIn_r _ [6, 7, 8, 9, 10, 11, 12, 5, 13, 14, 15, 16, 17, 18, 19, 20, 21, 22, 23, 24, 25, 26, 27, 28, 29, 30, 31, 32, 33, 34, 35, 36, 37, 38, 39, 40, 41, 42, 43, 44, 45, 46, 47, 48, 49, 50, 51, 52, 53, 54, 55, 56, 57, 58, 59, 60, 61, 62, 63, 64, 65, 66, 67, 68, 69, 70, 71, 72, 73, 74, 75, 76, 77, 78, 79, 80, 81, 82, 83, 84, 85, 86, 87, 88, 89, 90, 91, 92, 93, 94, 95, 96, 97, 98, 99, 100, 101, 102, 103, 104, 105, 106, 107, 108, 109, 110, 111, 112, 113, 114, 115, 116, 117, 118, 119, 129, 130, 131, 132, 133, 134, 135, 136, 137, 138, 139, 140, 141, 142, 143, 144, 145, 146, 147, 148, 149, 150, 151, 152, 153, 154, 155] (by decide +kernel) (by decide +kernel)
set_option maxRecDepth 20000 in
theorem gX7_odd_X6_oddNotch : GoodIn wsX7_odd (wsV RX7 208 RX6 yX6_oddNotch wsX6_oddNotch) := goodIn_app (goodIn_of _ (by decide +kernel)) ggX7_odd_X6_oddNotch
theorem dX7_odd_0 : decode cX7_odd 0 = .ok (.aload_n 0, 1) := by decide +kernel
theorem dX7_odd_1 : decode cX7_odd 1 = .ok (.getfield 45, 3) := by decide +kernel
theorem dX7_odd_4 : decode cX7_odd 4 = .ok (.invokevirtual 208, 3) := by decide +kernel
theorem dX7_odd_7 : decode cX7_odd 7 = .ok (.ireturn, 1) := by decide +kernel
set_option maxRecDepth 20000 in
theorem ggX7_clouds_X1_isPlace : GoodIn wsX7_clouds wsX1_isPlace := goodIn_r _ [8, 9, 10, 11, 12, 39, 40, 41, 42, 43, 44, 45, 46, 47, 48, 49] (by decide +kernel) (by decide +kernel)
set_option maxRecDepth 20000 in
theorem gX7_clouds_X1_isPlace : GoodIn wsX7_clouds (wsV RX7 137 RX1 yX1_isPlace wsX1_isPlace) := goodIn_app (goodIn_of _ (by decide +kernel)) ggX7_clouds_X1_isPlace
set_option maxRecDepth 20000 in
theorem ggX7_clouds_X7_isLook : GoodIn wsX7_clouds wsX7_isLook := goodIn_r _ [15] (by decide +kernel) (by decide +kernel)
set_option maxRecDepth 20000 in
theorem gX7_clouds_X7_isLook : GoodIn wsX7_clouds (va_wsS RX7 140 yX7_isLook wsX7_isLook) := goodIn_app (goodIn_of _ (by decide +kernel)) ggX7_clouds_X7_isLook
set_option maxRecDepth 20000 in
theorem ggX7_clouds_X7_pointOf : GoodIn wsX7_clouds wsX7_pointOf := goodIn_r _ [12] (by decide +kernel) (by decide +kernel)
set_option maxRecDepth 20000 in
theorem gX7_clouds_X7_pointOf : GoodIn wsX7_clouds (va_wsS RX7 143 yX7_pointOf wsX7_pointOf) := goodIn_app (goodIn_of _ (by decide +kernel)) ggX7_clouds_X7_pointOf
set_option maxRecDepth 20000 in
theorem ggX7_clouds_X0_append : GoodIn wsX7_clouds wsX0_append := goodIn_r _ [21, 22, 23, 24, 25, 35, 36, 37, 38] (by decide +kernel) (by decide +kernel)
set_option maxRecDepth 20000 in
theorem gX7_clouds_X0_append : GoodIn wsX7_clouds (wsV RX7 211 RX0 yX0_append wsX0_append) := goodIn_app (goodIn_of _ (by decide +kernel)) ggX7_clouds_X0_append
theorem dX7_clouds_0 : decode cX7_clouds 0 = .ok (.aload_n 0, 1) := by decide +kernel
theorem dX7_clouds_1 : decode cX7_clouds 1 = .ok (.getfield 19, 3) := by decide +kernel
theorem dX7_clouds_4 : decode cX7_clouds 4 = .ok (.iload_n 1, 1) := by decide +kernel
theorem dX7_clouds_5 : decode cX7_clouds 5 = .ok (.iload_n 2, 1) := by decide +kernel
theorem dX7_clouds_6 : decode cX7_clouds 6 = .ok (.invokevirtual 137, 3) := by decide +kernel
theorem dX7_clouds_9 : decode cX7_clouds 9 = .ok (.ifCond .eq 21, 3) := by decide +kernel
theorem dX7_clouds_12 : decode cX7_clouds 12 = .ok (.iload_n 3, 1) := by decide +kernel
theorem dX7_clouds_13 : decode cX7_clouds 13 = .ok (.invokestatic 140, 3) := by decide +kernel
theorem dX7_clouds_16 : decode cX7_clouds 16 = .ok (.ifCond .eq 14, 3) := by decide +kernel
theorem dX7_clouds_19 : decode cX7_clouds 19 = .ok (.iload 4, 2) := by decide +kernel
theorem dX7_clouds_21 : decode cX7_clouds 21 = .ok (.ifCond .lt 9, 3) := by decide +kernel
theorem dX7_clouds_24 : decode cX7_clouds 24 = .ok (.iload 4, 2) := by decide +kernel
theorem dX7_clouds_26 : decode cX7_clouds 26 = .ok (.iconst 1, 1) := by decide +kernel
theorem dX7_clouds_27 : decode cX7_clouds 27 = .ok (.if_icmp .le 5, 3) := by decide +kernel
theorem dX7_clouds_30 : decode cX7_clouds 30 = .ok (.iconst (-1), 1) := by decide +kernel
theorem dX7_clouds_31 : decode cX7_clouds 31 = .ok (.ireturn, 1) := by decide +kernel
theorem dX7_clouds_32 : decode cX7_clouds 32 = .ok (.aload_n 0, 1) := by decide +kernel
theorem dX7_clouds_33 : decode cX7_clouds 33 = .ok (.getfield 52, 3) := by decide +kernel
theorem dX7_clouds_36 : decode cX7_clouds 36 = .ok (.getfield 87, 3) := by decide +kernel
theorem dX7_clouds_39 : decode cX7_clouds 39 = .ok (.bipush 6, 2) := by decide +kernel
theorem dX7_clouds_41 : decode cX7_clouds 41 = .ok (.if_icmp .lt 6, 3) := by decide +kernel
theorem dX7_clouds_44 : decode cX7_clouds 44 = .ok (.bipush (-3), 2) := by decide +kernel
theorem dX7_clouds_46 : decode cX7_clouds 46 = .ok (.ireturn, 1) := by decide +kernel
theorem dX7_clouds_47 : decode cX7_clouds 47 = .ok (.aload_n 0, 1) := by decide +kernel
theorem dX7_clouds_48 : decode cX7_clouds 48 = .ok (.getfield 52, 3) := by decide +kernel
theorem dX7_clouds_51 : decode cX7_clouds 51 = .ok (.iload_n 1, 1) := by decide +kernel
theorem dX7_clouds_52 : decode cX7_clouds 52 = .ok (.iload_n 2, 1) := by decide +kernel
theorem dX7_clouds_53 : decode cX7_clouds 53 = .ok (.invokestatic 143, 3) := by decide +kernel
theorem dX7_clouds_56 : decode cX7_clouds 56 = .ok (.iload_n 3, 1) := by decide +kernel
theorem dX7_clouds_57 : decode cX7_clouds 57 = .ok (.iload 4, 2) := by decide +kernel
theorem dX7_clouds_59 : decode cX7_clouds 59 = .ok (.iconst 1, 1) := by decide +kernel
theorem dX7_clouds_60 : decode cX7_clouds 60 = .ok (.if_icmp .ne 7, 3) := by decide +kernel
theorem dX7_clouds_63 : decode cX7_clouds 63 = .ok (.iconst 1, 1) := by decide +kernel
theorem dX7_clouds_64 : decode cX7_clouds 64 = .ok (.goto 4, 3) := by decide +kernel
theorem dX7_clouds_67 : decode cX7_clouds 67 = .ok (.iconst 0, 1) := by decide +kernel
theorem dX7_clouds_68 : decode cX7_clouds 68 = .ok (.invokevirtual 211, 3) := by decide +kernel
theorem dX7_clouds_71 : decode cX7_clouds 71 = .ok (.aload_n 0, 1) := by decide +kernel
theorem dX7_clouds_72 : decode cX7_clouds 72 = .ok (.getfield 52, 3) := by decide +kernel
theorem dX7_clouds_75 : decode cX7_clouds 75 = .ok (.getfield 87, 3) := by decide +kernel
theorem dX7_clouds_78 : decode cX7_clouds 78 = .ok (.ireturn, 1) := by decide +kernel
theorem dX7_forget_0 : decode cX7_forget 0 = .ok (.aload_n 0, 1) := by decide +kernel
theorem dX7_forget_1 : decode cX7_forget 1 = .ok (.getfield 52, 3) := by decide +kernel
theorem dX7_forget_4 : decode cX7_forget 4 = .ok (.getfield 87, 3) := by decide +kernel
theorem dX7_forget_7 : decode cX7_forget 7 = .ok (.istore_n 1, 1) := by decide +kernel
theorem dX7_forget_8 : decode cX7_forget 8 = .ok (.aload_n 0, 1) := by decide +kernel
theorem dX7_forget_9 : decode cX7_forget 9 = .ok (.getfield 52, 3) := by decide +kernel
theorem dX7_forget_12 : decode cX7_forget 12 = .ok (.iconst 0, 1) := by decide +kernel
theorem dX7_forget_13 : decode cX7_forget 13 = .ok (.putfield 87, 3) := by decide +kernel
theorem dX7_forget_16 : decode cX7_forget 16 = .ok (.iload_n 1, 1) := by decide +kernel
theorem dX7_forget_17 : decode cX7_forget 17 = .ok (.ireturn, 1) := by decide +kernel
set_option maxRecDepth 20000 in
theorem ggX7_unseen_X7_isToldSoWithout : GoodIn wsX7_unseen wsX7_isToldSoWithout := goodIn_r _ [7, 1, 8, 9, 10, 11, 12, 13, 14, 15, 16, 17, 18, 19, 20, 21, 22, 23, 24, 25, 26, 27, 28, 29, 30, 31, 32, 33, 34, 35, 36, 37, 38, 39, 40, 41, 42, 43, 44, 45, 46, 47, 48, 49, 50, 51, 52, 53, 54, 55, 56, 57, 58, 59, 60, 61, 62, 63, 64, 65, 66, 67, 68, 69, 70, 71, 72, 73, 74, 75, 76, 77, 78, 79, 80, 81, 82, 83, 84, 85, 86, 87, 88, 89, 90, 91, 92, 93, 94, 95, 96, 97, 98, 99, 100, 101, 102, 103, 104, 105, 106, 107, 108, 109, 110, 111, 112, 113, 114, 115, 116, 117, 118, 119, 131, 132, 133, 134, 135, 136, 137, 120, 121, 122, 123, 124, 125, 126, 127, 128, 129, 130, 138, 139, 140, 141, 142, 143, 144, 145, 146, 147, 148, 149, 150] (by decide +kernel) (by decide +kernel)
set_option maxRecDepth 20000 in
theorem gX7_unseen_X7_isToldSoWithout : GoodIn wsX7_unseen (wsV RX7 217 RX7 yX7_isToldSoWithout wsX7_isToldSoWithout) := goodIn_app (goodIn_of _ (by decide +kernel)) ggX7_unseen_X7_isToldSoWithout
theorem dX7_unseen_0 : decode cX7_unseen 0 = .ok (.iconst 0, 1) := by decide +kernel
theorem dX7_unseen_1 : decode cX7_unseen 1 = .ok (.istore_n 1, 1) := by decide +kernel
theorem dX7_unseen_2 : decode cX7_unseen 2 = .ok (.iconst 0, 1) := by decide +kernel
theorem dX7_unseen_3 : decode cX7_unseen 3 = .ok (.istore_n 2, 1) := by decide +kernel
theorem dX7_unseen_4 : decode cX7_unseen 4 = .ok (.iload_n 2, 1) := by decide +kernel
theorem dX7_unseen_5 : decode cX7_unseen 5 = .ok (.aload_n 0, 1) := by decide +kernel
theorem dX7_unseen_6 : decode cX7_unseen 6 = .ok (.getfield 19, 3) := by decide +kernel
theorem dX7_unseen_9 : decode cX7_unseen 9 = .ok (.getfield 214, 3) := by decide +kernel
theorem dX7_unseen_12 : decode cX7_unseen 12 = .ok (.if_icmp .ge 23, 3) := by decide +kernel
theorem dX7_unseen_15 : decode cX7_unseen 15 = .ok (.aload_n 0, 1) := by decide +kernel
theorem dX7_unseen_16 : decode cX7_unseen 16 = .ok (.iload_n 2, 1) := by decide +kernel
theorem dX7_unseen_17 : decode cX7_unseen 17 = .ok (.invokevirtual 217, 3) := by decide +kernel
theorem dX7_unseen_20 : decode cX7_unseen 20 = .ok (.ifCond .eq 9, 3) := by decide +kernel
theorem dX7_unseen_23 : decode cX7_unseen 23 = .ok (.iload_n 1, 1) := by decide +kernel
theorem dX7_unseen_24 : decode cX7_unseen 24 = .ok (.iconst 1, 1) := by decide +kernel
theorem dX7_unseen_25 : decode cX7_unseen 25 = .ok (.iload_n 2, 1) := by decide +kernel
theorem dX7_unseen_26 : decode cX7_unseen 26 = .ok (.ishl, 1) := by decide +kernel
theorem dX7_unseen_27 : decode cX7_unseen 27 = .ok (.ior, 1) := by decide +kernel
theorem dX7_unseen_28 : decode cX7_unseen 28 = .ok (.istore_n 1, 1) := by decide +kernel
theorem dX7_unseen_29 : decode cX7_unseen 29 = .ok (.iinc 2 1, 3) := by decide +kernel
theorem dX7_unseen_32 : decode cX7_unseen 32 = .ok (.goto (-28), 3) := by decide +kernel
theorem dX7_unseen_35 : decode cX7_unseen 35 = .ok (.iload_n 1, 1) := by decide +kernel
theorem dX7_unseen_36 : decode cX7_unseen 36 = .ok (.ireturn, 1) := by decide +kernel
set_option maxRecDepth 20000 in
theorem ggX7_keep_X3_become : GoodIn wsX7_keep wsX3_become := goodIn_r _ [9, 10, 11, 12, 22, 23, 24] (by decide +kernel) (by decide +kernel)
set_option maxRecDepth 20000 in
theorem gX7_keep_X3_become : GoodIn wsX7_keep (wsV RX7 220 RX3 yX3_become wsX3_become) := goodIn_app (goodIn_of _ (by decide +kernel)) ggX7_keep_X3_become
theorem dX7_keep_0 : decode cX7_keep 0 = .ok (.iload_n 1, 1) := by decide +kernel
theorem dX7_keep_1 : decode cX7_keep 1 = .ok (.ifCond .lt 8, 3) := by decide +kernel
theorem dX7_keep_4 : decode cX7_keep 4 = .ok (.iload_n 1, 1) := by decide +kernel
theorem dX7_keep_5 : decode cX7_keep 5 = .ok (.iconst 2, 1) := by decide +kernel
theorem dX7_keep_6 : decode cX7_keep 6 = .ok (.if_icmp .lt 5, 3) := by decide +kernel
theorem dX7_keep_9 : decode cX7_keep 9 = .ok (.iconst (-1), 1) := by decide +kernel
theorem dX7_keep_10 : decode cX7_keep 10 = .ok (.ireturn, 1) := by decide +kernel
theorem dX7_keep_11 : decode cX7_keep 11 = .ok (.aload_n 0, 1) := by decide +kernel
theorem dX7_keep_12 : decode cX7_keep 12 = .ok (.getfield 56, 3) := by decide +kernel
theorem dX7_keep_15 : decode cX7_keep 15 = .ok (.iload_n 1, 1) := by decide +kernel
theorem dX7_keep_16 : decode cX7_keep 16 = .ok (.aaload, 1) := by decide +kernel
theorem dX7_keep_17 : decode cX7_keep 17 = .ok (.aload_n 0, 1) := by decide +kernel
theorem dX7_keep_18 : decode cX7_keep 18 = .ok (.getfield 29, 3) := by decide +kernel
theorem dX7_keep_21 : decode cX7_keep 21 = .ok (.invokevirtual 220, 3) := by decide +kernel
theorem dX7_keep_24 : decode cX7_keep 24 = .ok (.aload_n 0, 1) := by decide +kernel
theorem dX7_keep_25 : decode cX7_keep 25 = .ok (.getfield 60, 3) := by decide +kernel
theorem dX7_keep_28 : decode cX7_keep 28 = .ok (.iload_n 1, 1) := by decide +kernel
theorem dX7_keep_29 : decode cX7_keep 29 = .ok (.iconst 1, 1) := by decide +kernel
theorem dX7_keep_30 : decode cX7_keep 30 = .ok (.bastore, 1) := by decide +kernel
theorem dX7_keep_31 : decode cX7_keep 31 = .ok (.aload_n 0, 1) := by decide +kernel
theorem dX7_keep_32 : decode cX7_keep 32 = .ok (.getfield 29, 3) := by decide +kernel
theorem dX7_keep_35 : decode cX7_keep 35 = .ok (.getfield 83, 3) := by decide +kernel
theorem dX7_keep_38 : decode cX7_keep 38 = .ok (.ireturn, 1) := by decide +kernel
set_option maxRecDepth 20000 in
theorem ggX7_back_X3_become : GoodIn wsX7_back wsX3_become := goodIn_r _ [13, 14, 15, 16, 39, 40, 41] (by decide +kernel) (by decide +kernel)
set_option maxRecDepth 20000 in
theorem gX7_back_X3_become : GoodIn wsX7_back (wsV RX7 220 RX3 yX3_become wsX3_become) := goodIn_app (goodIn_of _ (by decide +kernel)) ggX7_back_X3_become
theorem dX7_back_0 : decode cX7_back 0 = .ok (.iload_n 1, 1) := by decide +kernel
theorem dX7_back_1 : decode cX7_back 1 = .ok (.ifCond .lt 8, 3) := by decide +kernel
theorem dX7_back_4 : decode cX7_back 4 = .ok (.iload_n 1, 1) := by decide +kernel
theorem dX7_back_5 : decode cX7_back 5 = .ok (.iconst 2, 1) := by decide +kernel
theorem dX7_back_6 : decode cX7_back 6 = .ok (.if_icmp .lt 5, 3) := by decide +kernel
theorem dX7_back_9 : decode cX7_back 9 = .ok (.iconst (-1), 1) := by decide +kernel
theorem dX7_back_10 : decode cX7_back 10 = .ok (.ireturn, 1) := by decide +kernel
theorem dX7_back_11 : decode cX7_back 11 = .ok (.aload_n 0, 1) := by decide +kernel
theorem dX7_back_12 : decode cX7_back 12 = .ok (.getfield 60, 3) := by decide +kernel
theorem dX7_back_15 : decode cX7_back 15 = .ok (.iload_n 1, 1) := by decide +kernel
theorem dX7_back_16 : decode cX7_back 16 = .ok (.baload, 1) := by decide +kernel
theorem dX7_back_17 : decode cX7_back 17 = .ok (.ifCond .ne 6, 3) := by decide +kernel
theorem dX7_back_20 : decode cX7_back 20 = .ok (.bipush (-2), 2) := by decide +kernel
theorem dX7_back_22 : decode cX7_back 22 = .ok (.ireturn, 1) := by decide +kernel
theorem dX7_back_23 : decode cX7_back 23 = .ok (.aload_n 0, 1) := by decide +kernel
theorem dX7_back_24 : decode cX7_back 24 = .ok (.getfield 29, 3) := by decide +kernel
theorem dX7_back_27 : decode cX7_back 27 = .ok (.aload_n 0, 1) := by decide +kernel
theorem dX7_back_28 : decode cX7_back 28 = .ok (.getfield 56, 3) := by decide +kernel
theorem dX7_back_31 : decode cX7_back 31 = .ok (.iload_n 1, 1) := by decide +kernel
theorem dX7_back_32 : decode cX7_back 32 = .ok (.aaload, 1) := by decide +kernel
theorem dX7_back_33 : decode cX7_back 33 = .ok (.invokevirtual 220, 3) := by decide +kernel
theorem dX7_back_36 : decode cX7_back 36 = .ok (.aload_n 0, 1) := by decide +kernel
theorem dX7_back_37 : decode cX7_back 37 = .ok (.getfield 36, 3) := by decide +kernel
theorem dX7_back_40 : decode cX7_back 40 = .ok (.iconst 0, 1) := by decide +kernel
theorem dX7_back_41 : decode cX7_back 41 = .ok (.putfield 86, 3) := by decide +kernel
theorem dX7_back_44 : decode cX7_back 44 = .ok (.aload_n 0, 1) := by decide +kernel
theorem dX7_back_45 : decode cX7_back 45 = .ok (.getfield 45, 3) := by decide +kernel
theorem dX7_back_48 : decode cX7_back 48 = .ok (.iconst 0, 1) := by decide +kernel
theorem dX7_back_49 : decode cX7_back 49 = .ok (.putfield 88, 3) := by decide +kernel
theorem dX7_back_52 : decode cX7_back 52 = .ok (.aload_n 0, 1) := by decide +kernel
theorem dX7_back_53 : decode cX7_back 53 = .ok (.getfield 29, 3) := by decide +kernel
theorem dX7_back_56 : decode cX7_back 56 = .ok (.getfield 83, 3) := by decide +kernel
theorem dX7_back_59 : decode cX7_back 59 = .ok (.ireturn, 1) := by decide +kernel
theorem dX7_count_0 : decode cX7_count 0 = .ok (.iload_n 1, 1) := by decide +kernel
theorem dX7_count_1 : decode cX7_count 1 = .ok (.tableswitch 99 0 6 #[43, 51, 59, 67, 75, 83, 91], 43) := by decide +kernel
theorem dX7_count_44 : decode cX7_count 44 = .ok (.aload_n 0, 1) := by decide +kernel
theorem dX7_count_45 : decode cX7_count 45 = .ok (.getfield 19, 3) := by decide +kernel
theorem dX7_count_48 : decode cX7_count 48 = .ok (.getfield 214, 3) := by decide +kernel
theorem dX7_count_51 : decode cX7_count 51 = .ok (.ireturn, 1) := by decide +kernel
theorem dX7_count_52 : decode cX7_count 52 = .ok (.aload_n 0, 1) := by decide +kernel
theorem dX7_count_53 : decode cX7_count 53 = .ok (.getfield 19, 3) := by decide +kernel
theorem dX7_count_56 : decode cX7_count 56 = .ok (.getfield 106, 3) := by decide +kernel
theorem dX7_count_59 : decode cX7_count 59 = .ok (.ireturn, 1) := by decide +kernel
theorem dX7_count_60 : decode cX7_count 60 = .ok (.aload_n 0, 1) := by decide +kernel
theorem dX7_count_61 : decode cX7_count 61 = .ok (.getfield 19, 3) := by decide +kernel
theorem dX7_count_64 : decode cX7_count 64 = .ok (.getfield 222, 3) := by decide +kernel
theorem dX7_count_67 : decode cX7_count 67 = .ok (.ireturn, 1) := by decide +kernel
theorem dX7_count_68 : decode cX7_count 68 = .ok (.aload_n 0, 1) := by decide +kernel
theorem dX7_count_69 : decode cX7_count 69 = .ok (.getfield 29, 3) := by decide +kernel
theorem dX7_count_72 : decode cX7_count 72 = .ok (.getfield 83, 3) := by decide +kernel
theorem dX7_count_75 : decode cX7_count 75 = .ok (.ireturn, 1) := by decide +kernel
theorem dX7_count_76 : decode cX7_count 76 = .ok (.aload_n 0, 1) := by decide +kernel
theorem dX7_count_77 : decode cX7_count 77 = .ok (.getfield 52, 3) := by decide +kernel
theorem dX7_count_80 : decode cX7_count 80 = .ok (.getfield 87, 3) := by decide +kernel
theorem dX7_count_83 : decode cX7_count 83 = .ok (.ireturn, 1) := by decide +kernel
theorem dX7_count_84 : decode cX7_count 84 = .ok (.aload_n 0, 1) := by decide +kernel
theorem dX7_count_85 : decode cX7_count 85 = .ok (.getfield 12, 3) := by decide +kernel
theorem dX7_count_88 : decode cX7_count 88 = .ok (.getfield 64, 3) := by decide +kernel
theorem dX7_count_91 : decode cX7_count 91 = .ok (.ireturn, 1) := by decide +kernel
theorem dX7_count_92 : decode cX7_count 92 = .ok (.aload_n 0, 1) := by decide +kernel
theorem dX7_count_93 : decode cX7_count 93 = .ok (.getfield 36, 3) := by decide +kernel
theorem dX7_count_96 : decode cX7_count 96 = .ok (.getfield 86, 3) := by decide +kernel
theorem dX7_count_99 : decode cX7_count 99 = .ok (.ireturn, 1) := by decide +kernel
theorem dX7_count_100 : decode cX7_count 100 = .ok (.iconst (-1), 1) := by decide +kernel
theorem dX7_count_101 : decode cX7_count 101 = .ok (.ireturn, 1) := by decide +kernel
theorem dX7_isLook_0 : decode cX7_isLook 0 = .ok (.iload_n 0, 1) := by decide +kernel
theorem dX7_isLook_1 : decode cX7_isLook 1 = .ok (.ifCond .lt 13, 3) := by decide +kernel
theorem dX7_isLook_4 : decode cX7_isLook 4 = .ok (.iload_n 0, 1) := by decide +kernel
theorem dX7_isLook_5 : decode cX7_isLook 5 = .ok (.bipush 64, 2) := by decide +kernel
theorem dX7_isLook_7 : decode cX7_isLook 7 = .ok (.if_icmp .ge 7, 3) := by decide +kernel
theorem dX7_isLook_10 : decode cX7_isLook 10 = .ok (.iconst 1, 1) := by decide +kernel
theorem dX7_isLook_11 : decode cX7_isLook 11 = .ok (.goto 4, 3) := by decide +kernel
theorem dX7_isLook_14 : decode cX7_isLook 14 = .ok (.iconst 0, 1) := by decide +kernel
theorem dX7_isLook_15 : decode cX7_isLook 15 = .ok (.ireturn, 1) := by decide +kernel
set_option maxRecDepth 20000 in
theorem ggX7_isMark_X7_isLook : GoodIn wsX7_isMark wsX7_isLook := goodIn_r _ [4] (by decide +kernel) (by decide +kernel)
set_option maxRecDepth 20000 in
theorem gX7_isMark_X7_isLook : GoodIn wsX7_isMark (va_wsS RX7 140 yX7_isLook wsX7_isLook) := goodIn_app (goodIn_of _ (by decide +kernel)) ggX7_isMark_X7_isLook
theorem dX7_isMark_0 : decode cX7_isMark 0 = .ok (.iload_n 0, 1) := by decide +kernel
theorem dX7_isMark_1 : decode cX7_isMark 1 = .ok (.invokestatic 140, 3) := by decide +kernel
theorem dX7_isMark_4 : decode cX7_isMark 4 = .ok (.ifCond .eq 18, 3) := by decide +kernel
theorem dX7_isMark_7 : decode cX7_isMark 7 = .ok (.iload_n 1, 1) := by decide +kernel
theorem dX7_isMark_8 : decode cX7_isMark 8 = .ok (.ifCond .lt 14, 3) := by decide +kernel
theorem dX7_isMark_11 : decode cX7_isMark 11 = .ok (.iload_n 1, 1) := by decide +kernel
theorem dX7_isMark_12 : decode cX7_isMark 12 = .ok (.sipush 480, 3) := by decide +kernel
theorem dX7_isMark_15 : decode cX7_isMark 15 = .ok (.if_icmp .gt 7, 3) := by decide +kernel
theorem dX7_isMark_18 : decode cX7_isMark 18 = .ok (.iconst 1, 1) := by decide +kernel
theorem dX7_isMark_19 : decode cX7_isMark 19 = .ok (.goto 4, 3) := by decide +kernel
theorem dX7_isMark_22 : decode cX7_isMark 22 = .ok (.iconst 0, 1) := by decide +kernel
theorem dX7_isMark_23 : decode cX7_isMark 23 = .ok (.ireturn, 1) := by decide +kernel
theorem dX7_pointOf_0 : decode cX7_pointOf 0 = .ok (.iload_n 0, 1) := by decide +kernel
theorem dX7_pointOf_1 : decode cX7_pointOf 1 = .ok (.bipush 8, 2) := by decide +kernel
theorem dX7_pointOf_3 : decode cX7_pointOf 3 = .ok (.imul, 1) := by decide +kernel
theorem dX7_pointOf_4 : decode cX7_pointOf 4 = .ok (.iload_n 1, 1) := by decide +kernel
theorem dX7_pointOf_5 : decode cX7_pointOf 5 = .ok (.iadd, 1) := by decide +kernel
theorem dX7_pointOf_6 : decode cX7_pointOf 6 = .ok (.ireturn, 1) := by decide +kernel
theorem dX7_partOf_0 : decode cX7_partOf 0 = .ok (.iload_n 0, 1) := by decide +kernel
theorem dX7_partOf_1 : decode cX7_partOf 1 = .ok (.bipush 64, 2) := by decide +kernel
theorem dX7_partOf_3 : decode cX7_partOf 3 = .ok (.idiv, 1) := by decide +kernel
theorem dX7_partOf_4 : decode cX7_partOf 4 = .ok (.istore_n 2, 1) := by decide +kernel
theorem dX7_partOf_5 : decode cX7_partOf 5 = .ok (.iload_n 1, 1) := by decide +kernel
theorem dX7_partOf_6 : decode cX7_partOf 6 = .ok (.lookupswitch 36 #[(0, 26), (1, 31)], 26) := by decide +kernel
theorem dX7_partOf_32 : decode cX7_partOf 32 = .ok (.iload_n 2, 1) := by decide +kernel
theorem dX7_partOf_33 : decode cX7_partOf 33 = .ok (.bipush 8, 2) := by decide +kernel
theorem dX7_partOf_35 : decode cX7_partOf 35 = .ok (.idiv, 1) := by decide +kernel
theorem dX7_partOf_36 : decode cX7_partOf 36 = .ok (.ireturn, 1) := by decide +kernel
theorem dX7_partOf_37 : decode cX7_partOf 37 = .ok (.iload_n 2, 1) := by decide +kernel
theorem dX7_partOf_38 : decode cX7_partOf 38 = .ok (.bipush 8, 2) := by decide +kernel
theorem dX7_partOf_40 : decode cX7_partOf 40 = .ok (.irem, 1) := by decide +kernel
theorem dX7_partOf_41 : decode cX7_partOf 41 = .ok (.ireturn, 1) := by decide +kernel
theorem dX7_partOf_42 : decode cX7_partOf 42 = .ok (.iload_n 0, 1) := by decide +kernel
theorem dX7_partOf_43 : decode cX7_partOf 43 = .ok (.bipush 64, 2) := by decide +kernel
theorem dX7_partOf_45 : decode cX7_partOf 45 = .ok (.irem, 1) := by decide +kernel
theorem dX7_partOf_46 : decode cX7_partOf 46 = .ok (.ireturn, 1) := by decide +kernel
set_option maxRecDepth 20000 in
theorem ggX7_beforeDone_X4_push : GoodIn wsX7_beforeDone wsX4_push := goodIn_r _ [9, 10, 11, 12, 13, 14, 15, 16, 17, 18, 19, 20, 21, 22, 23, 24, 44, 45, 46, 47, 48, 49] (by decide +kernel) (by decide +kernel)
set_option maxRecDepth 20000 in
theorem gX7_beforeDone_X4_push : GoodIn wsX7_beforeDone (wsV RX7 225 RX4 yX4_push wsX4_push) := goodIn_app (goodIn_of _ (by decide +kernel)) ggX7_beforeDone_X4_push
theorem dX7_beforeDone_0 : decode cX7_beforeDone 0 = .ok (.aload_n 0, 1) := by decide +kernel
theorem dX7_beforeDone_1 : decode cX7_beforeDone 1 = .ok (.getfield 36, 3) := by decide +kernel
theorem dX7_beforeDone_4 : decode cX7_beforeDone 4 = .ok (.aload_n 0, 1) := by decide +kernel
theorem dX7_beforeDone_5 : decode cX7_beforeDone 5 = .ok (.getfield 29, 3) := by decide +kernel
theorem dX7_beforeDone_8 : decode cX7_beforeDone 8 = .ok (.invokevirtual 225, 3) := by decide +kernel
theorem dX7_beforeDone_11 : decode cX7_beforeDone 11 = .ok (.aload_n 0, 1) := by decide +kernel
theorem dX7_beforeDone_12 : decode cX7_beforeDone 12 = .ok (.getfield 45, 3) := by decide +kernel
theorem dX7_beforeDone_15 : decode cX7_beforeDone 15 = .ok (.iconst 0, 1) := by decide +kernel
theorem dX7_beforeDone_16 : decode cX7_beforeDone 16 = .ok (.putfield 88, 3) := by decide +kernel
theorem dX7_beforeDone_19 : decode cX7_beforeDone 19 = .ok (.return_, 1) := by decide +kernel
set_option maxRecDepth 20000 in
theorem ggX7_isToldSoWithout_X1_allPeaks : GoodIn wsX7_isToldSoWithout wsX1_allPeaks := goodIn_r _ [14, 15, 121, 122, 123, 124, 125, 126, 127, 128, 129, 130, 131] (by decide +kernel) (by decide +kernel)
set_option maxRecDepth 20000 in
theorem gX7_isToldSoWithout_X1_allPeaks : GoodIn wsX7_isToldSoWithout (wsV RX7 179 RX1 yX1_allPeaks wsX1_allPeaks) := goodIn_app (goodIn_of _ (by decide +kernel)) ggX7_isToldSoWithout_X1_allPeaks
set_option maxRecDepth 20000 in
theorem ggX7_isToldSoWithout_X6_scoreWith : GoodIn wsX7_isToldSoWithout wsX6_scoreWith := goodIn_r _ [20, 21, 22, 23, 19, 24, 25, 26, 27, 28, 29, 30, 31, 32, 33, 34, 35, 36, 37, 38, 39, 40, 13, 41, 42, 43, 44, 45, 46, 47, 48, 49, 50, 51, 52, 53, 54, 55, 56, 57, 58, 59, 60, 61, 62, 63, 64, 65, 66, 67, 68, 69, 70, 71, 72, 73, 74, 75, 76, 77, 78, 79, 80, 81, 82, 83, 84, 85, 86, 87, 88, 89, 90, 91, 92, 93, 94, 95, 96, 97, 98, 99, 100, 101, 102, 103, 104, 132, 133, 134, 135, 136, 137, 138, 139, 140, 141, 121, 122, 123, 124, 125, 126, 127, 128, 129, 130, 131, 118, 119, 120, 142, 143, 144] (by decide +kernel) (by decide +kernel)
set_option maxRecDepth 20000 in
theorem gX7_isToldSoWithout_X6_scoreWith : GoodIn wsX7_isToldSoWithout (wsV RX7 183 RX6 yX6_scoreWith wsX6_scoreWith) := goodIn_app (goodIn_of _ (by decide +kernel)) ggX7_isToldSoWithout_X6_scoreWith
theorem dX7_isToldSoWithout_0 : decode cX7_isToldSoWithout 0 = .ok (.aload_n 0, 1) := by decide +kernel
theorem dX7_isToldSoWithout_1 : decode cX7_isToldSoWithout 1 = .ok (.getfield 19, 3) := by decide +kernel
theorem dX7_isToldSoWithout_4 : decode cX7_isToldSoWithout 4 = .ok (.invokevirtual 179, 3) := by decide +kernel
theorem dX7_isToldSoWithout_7 : decode cX7_isToldSoWithout 7 = .ok (.iconst 1, 1) := by decide +kernel
theorem dX7_isToldSoWithout_8 : decode cX7_isToldSoWithout 8 = .ok (.iload_n 1, 1) := by decide +kernel
theorem dX7_isToldSoWithout_9 : decode cX7_isToldSoWithout 9 = .ok (.ishl, 1) := by decide +kernel
theorem dX7_isToldSoWithout_10 : decode cX7_isToldSoWithout 10 = .ok (.iconst (-1), 1) := by decide +kernel
theorem dX7_isToldSoWithout_11 : decode cX7_isToldSoWithout 11 = .ok (.ixor, 1) := by decide +kernel
theorem dX7_isToldSoWithout_12 : decode cX7_isToldSoWithout 12 = .ok (.iand, 1) := by decide +kernel
theorem dX7_isToldSoWithout_13 : decode cX7_isToldSoWithout 13 = .ok (.istore_n 2, 1) := by decide +kernel
theorem dX7_isToldSoWithout_14 : decode cX7_isToldSoWithout 14 = .ok (.iconst 0, 1) := by decide +kernel
theorem dX7_isToldSoWithout_15 : decode cX7_isToldSoWithout 15 = .ok (.istore_n 3, 1) := by decide +kernel
theorem dX7_isToldSoWithout_16 : decode cX7_isToldSoWithout 16 = .ok (.iload_n 3, 1) := by decide +kernel
theorem dX7_isToldSoWithout_17 : decode cX7_isToldSoWithout 17 = .ok (.aload_n 0, 1) := by decide +kernel
theorem dX7_isToldSoWithout_18 : decode cX7_isToldSoWithout 18 = .ok (.getfield 52, 3) := by decide +kernel
theorem dX7_isToldSoWithout_21 : decode cX7_isToldSoWithout 21 = .ok (.getfield 87, 3) := by decide +kernel
theorem dX7_isToldSoWithout_24 : decode cX7_isToldSoWithout 24 = .ok (.if_icmp .ge 68, 3) := by decide +kernel
theorem dX7_isToldSoWithout_27 : decode cX7_isToldSoWithout 27 = .ok (.aload_n 0, 1) := by decide +kernel
theorem dX7_isToldSoWithout_28 : decode cX7_isToldSoWithout 28 = .ok (.getfield 45, 3) := by decide +kernel
theorem dX7_isToldSoWithout_31 : decode cX7_isToldSoWithout 31 = .ok (.aload_n 0, 1) := by decide +kernel
theorem dX7_isToldSoWithout_32 : decode cX7_isToldSoWithout 32 = .ok (.getfield 52, 3) := by decide +kernel
theorem dX7_isToldSoWithout_35 : decode cX7_isToldSoWithout 35 = .ok (.getfield 228, 3) := by decide +kernel
theorem dX7_isToldSoWithout_38 : decode cX7_isToldSoWithout 38 = .ok (.iload_n 3, 1) := by decide +kernel
theorem dX7_isToldSoWithout_39 : decode cX7_isToldSoWithout 39 = .ok (.iaload, 1) := by decide +kernel
theorem dX7_isToldSoWithout_40 : decode cX7_isToldSoWithout 40 = .ok (.aload_n 0, 1) := by decide +kernel
theorem dX7_isToldSoWithout_41 : decode cX7_isToldSoWithout 41 = .ok (.getfield 52, 3) := by decide +kernel
theorem dX7_isToldSoWithout_44 : decode cX7_isToldSoWithout 44 = .ok (.getfield 231, 3) := by decide +kernel
theorem dX7_isToldSoWithout_47 : decode cX7_isToldSoWithout 47 = .ok (.iload_n 3, 1) := by decide +kernel
theorem dX7_isToldSoWithout_48 : decode cX7_isToldSoWithout 48 = .ok (.iaload, 1) := by decide +kernel
theorem dX7_isToldSoWithout_49 : decode cX7_isToldSoWithout 49 = .ok (.iload_n 2, 1) := by decide +kernel
theorem dX7_isToldSoWithout_50 : decode cX7_isToldSoWithout 50 = .ok (.invokevirtual 183, 3) := by decide +kernel
theorem dX7_isToldSoWithout_53 : decode cX7_isToldSoWithout 53 = .ok (.istore 4, 2) := by decide +kernel
theorem dX7_isToldSoWithout_55 : decode cX7_isToldSoWithout 55 = .ok (.iload 4, 2) := by decide +kernel
theorem dX7_isToldSoWithout_57 : decode cX7_isToldSoWithout 57 = .ok (.aload_n 0, 1) := by decide +kernel
theorem dX7_isToldSoWithout_58 : decode cX7_isToldSoWithout 58 = .ok (.getfield 29, 3) := by decide +kernel
theorem dX7_isToldSoWithout_61 : decode cX7_isToldSoWithout 61 = .ok (.getfield 83, 3) := by decide +kernel
theorem dX7_isToldSoWithout_64 : decode cX7_isToldSoWithout 64 = .ok (.if_icmp .ne 7, 3) := by decide +kernel
theorem dX7_isToldSoWithout_67 : decode cX7_isToldSoWithout 67 = .ok (.iconst 1, 1) := by decide +kernel
theorem dX7_isToldSoWithout_68 : decode cX7_isToldSoWithout 68 = .ok (.goto 4, 3) := by decide +kernel
theorem dX7_isToldSoWithout_71 : decode cX7_isToldSoWithout 71 = .ok (.iconst 0, 1) := by decide +kernel
theorem dX7_isToldSoWithout_72 : decode cX7_isToldSoWithout 72 = .ok (.aload_n 0, 1) := by decide +kernel
theorem dX7_isToldSoWithout_73 : decode cX7_isToldSoWithout 73 = .ok (.getfield 52, 3) := by decide +kernel
theorem dX7_isToldSoWithout_76 : decode cX7_isToldSoWithout 76 = .ok (.getfield 234, 3) := by decide +kernel
theorem dX7_isToldSoWithout_79 : decode cX7_isToldSoWithout 79 = .ok (.iload_n 3, 1) := by decide +kernel
theorem dX7_isToldSoWithout_80 : decode cX7_isToldSoWithout 80 = .ok (.baload, 1) := by decide +kernel
theorem dX7_isToldSoWithout_81 : decode cX7_isToldSoWithout 81 = .ok (.if_icmp .eq 5, 3) := by decide +kernel
theorem dX7_isToldSoWithout_84 : decode cX7_isToldSoWithout 84 = .ok (.iconst 0, 1) := by decide +kernel
theorem dX7_isToldSoWithout_85 : decode cX7_isToldSoWithout 85 = .ok (.ireturn, 1) := by decide +kernel
theorem dX7_isToldSoWithout_86 : decode cX7_isToldSoWithout 86 = .ok (.iinc 3 1, 3) := by decide +kernel
theorem dX7_isToldSoWithout_89 : decode cX7_isToldSoWithout 89 = .ok (.goto (-73), 3) := by decide +kernel
theorem dX7_isToldSoWithout_92 : decode cX7_isToldSoWithout 92 = .ok (.iconst 1, 1) := by decide +kernel
theorem dX7_isToldSoWithout_93 : decode cX7_isToldSoWithout 93 = .ok (.ireturn, 1) := by decide +kernel
set_option maxRecDepth 20000 in
theorem ggX8_init_X8_begins : GoodIn wsX8_init wsX8_begins := goodIn_r _ [37, 38, 39, 40, 81, 82, 83, 84, 85, 86, 87, 88, 89, 90, 91, 92, 93, 94, 95, 96, 97, 98, 99, 100, 101, 102, 103, 104, 105, 106, 107, 108, 109, 110, 111, 112, 113, 114, 115, 116, 117, 118, 119, 120, 121, 122, 123, 124] (by decide +kernel) (by decide +kernel)
set_option maxRecDepth 20000 in
theorem gX8_init_X8_begins : GoodIn wsX8_init (wsV RX8 92 RX8 yX8_begins wsX8_begins) := goodIn_app (goodIn_of _ (by decide +kernel)) ggX8_init_X8_begins
set_option maxRecDepth 20000 in
theorem ggX8_init_X8_becomes : GoodIn wsX8_init wsX8_becomes := goodIn_r _ [44, 38, 45, 5, 23, 6, 24, 7, 25, 39, 46, 8, 26, 9, 27, 40, 47, 15, 48, 49, 18, 50, 51, 52, 36, 53, 11, 12, 13, 14, 54, 55, 56, 57, 58, 59, 60, 61, 62, 63, 64, 65, 66, 67, 68, 69, 70, 71, 72, 73, 74, 75, 76, 77, 78, 79, 80, 81, 82, 83, 84, 85, 86, 87, 88, 89, 90, 91, 92, 93, 94, 95, 96, 97, 98, 99, 100, 101, 102, 103, 104, 105, 106, 107, 108, 109, 110, 111, 112, 113, 114, 115, 116, 117, 118, 119, 120, 121, 122, 123, 124] (by decide +kernel) (by decide +kernel)
set_option maxRecDepth 20000 in
theorem gX8_init_X8_becomes : GoodIn wsX8_init (wsV RX8 95 RX8 yX8_becomes wsX8_becomes) := goodIn_app (goodIn_of _ (by decide +kernel)) ggX8_init_X8_becomes
theorem dX8_init_0 : decode cX8_init 0 = .ok (.aload_n 0, 1) := by decide +kernel
theorem dX8_init_1 : decode cX8_init 1 = .ok (.invokespecial 1, 3) := by decide +kernel
theorem dX8_init_4 : decode cX8_init 4 = .ok (.aload_n 0, 1) := by decide +kernel
theorem dX8_init_5 : decode cX8_init 5 = .ok (.bipush 10, 2) := by decide +kernel
theorem dX8_init_7 : decode cX8_init 7 = .ok (.newarray .int, 2) := by decide +kernel
theorem dX8_init_9 : decode cX8_init 9 = .ok (.putfield 7, 3) := by decide +kernel
theorem dX8_init_12 : decode cX8_init 12 = .ok (.aload_n 0, 1) := by decide +kernel
theorem dX8_init_13 : decode cX8_init 13 = .ok (.bipush 10, 2) := by decide +kernel
theorem dX8_init_15 : decode cX8_init 15 = .ok (.newarray .int, 2) := by decide +kernel
theorem dX8_init_17 : decode cX8_init 17 = .ok (.putfield 13, 3) := by decide +kernel
theorem dX8_init_20 : decode cX8_init 20 = .ok (.aload_n 0, 1) := by decide +kernel
theorem dX8_init_21 : decode cX8_init 21 = .ok (.bipush 10, 2) := by decide +kernel
theorem dX8_init_23 : decode cX8_init 23 = .ok (.newarray .int, 2) := by decide +kernel
theorem dX8_init_25 : decode cX8_init 25 = .ok (.putfield 16, 3) := by decide +kernel
theorem dX8_init_28 : decode cX8_init 28 = .ok (.aload_n 0, 1) := by decide +kernel
theorem dX8_init_29 : decode cX8_init 29 = .ok (.bipush 8, 2) := by decide +kernel
theorem dX8_init_31 : decode cX8_init 31 = .ok (.newarray .int, 2) := by decide +kernel
theorem dX8_init_33 : decode cX8_init 33 = .ok (.putfield 19, 3) := by decide +kernel
theorem dX8_init_36 : decode cX8_init 36 = .ok (.aload_n 0, 1) := by decide +kernel
theorem dX8_init_37 : decode cX8_init 37 = .ok (.bipush 8, 2) := by decide +kernel
theorem dX8_init_39 : decode cX8_init 39 = .ok (.newarray .int, 2) := by decide +kernel
theorem dX8_init_41 : decode cX8_init 41 = .ok (.putfield 22, 3) := by decide +kernel
theorem dX8_init_44 : decode cX8_init 44 = .ok (.aload_n 0, 1) := by decide +kernel
theorem dX8_init_45 : decode cX8_init 45 = .ok (.bipush 64, 2) := by decide +kernel
theorem dX8_init_47 : decode cX8_init 47 = .ok (.newarray .boolean, 2) := by decide +kernel
theorem dX8_init_49 : decode cX8_init 49 = .ok (.putfield 25, 3) := by decide +kernel
theorem dX8_init_52 : decode cX8_init 52 = .ok (.aload_n 0, 1) := by decide +kernel
theorem dX8_init_53 : decode cX8_init 53 = .ok (.bipush 64, 2) := by decide +kernel
theorem dX8_init_55 : decode cX8_init 55 = .ok (.newarray .int, 2) := by decide +kernel
theorem dX8_init_57 : decode cX8_init 57 = .ok (.putfield 29, 3) := by decide +kernel
theorem dX8_init_60 : decode cX8_init 60 = .ok (.aload_n 0, 1) := by decide +kernel
theorem dX8_init_61 : decode cX8_init 61 = .ok (.sipush 640, 3) := by decide +kernel
theorem dX8_init_64 : decode cX8_init 64 = .ok (.newarray .int, 2) := by decide +kernel
theorem dX8_init_66 : decode cX8_init 66 = .ok (.putfield 32, 3) := by decide +kernel
theorem dX8_init_69 : decode cX8_init 69 = .ok (.aload_n 0, 1) := by decide +kernel
theorem dX8_init_70 : decode cX8_init 70 = .ok (.sipush 640, 3) := by decide +kernel
theorem dX8_init_73 : decode cX8_init 73 = .ok (.newarray .int, 2) := by decide +kernel
theorem dX8_init_75 : decode cX8_init 75 = .ok (.putfield 35, 3) := by decide +kernel
theorem dX8_init_78 : decode cX8_init 78 = .ok (.aload_n 0, 1) := by decide +kernel
theorem dX8_init_79 : decode cX8_init 79 = .ok (.bipush 17, 2) := by decide +kernel
theorem dX8_init_81 : decode cX8_init 81 = .ok (.newarray .int, 2) := by decide +kernel
theorem dX8_init_83 : decode cX8_init 83 = .ok (.putfield 38, 3) := by decide +kernel
theorem dX8_init_86 : decode cX8_init 86 = .ok (.aload_n 0, 1) := by decide +kernel
theorem dX8_init_87 : decode cX8_init 87 = .ok (.sipush 170, 3) := by decide +kernel
theorem dX8_init_90 : decode cX8_init 90 = .ok (.newarray .int, 2) := by decide +kernel
theorem dX8_init_92 : decode cX8_init 92 = .ok (.putfield 41, 3) := by decide +kernel
theorem dX8_init_95 : decode cX8_init 95 = .ok (.aload_n 0, 1) := by decide +kernel
theorem dX8_init_96 : decode cX8_init 96 = .ok (.bipush 34, 2) := by decide +kernel
theorem dX8_init_98 : decode cX8_init 98 = .ok (.newarray .int, 2) := by decide +kernel
theorem dX8_init_100 : decode cX8_init 100 = .ok (.putfield 44, 3) := by decide +kernel
theorem dX8_init_103 : decode cX8_init 103 = .ok (.aload_n 0, 1) := by decide +kernel
theorem dX8_init_104 : decode cX8_init 104 = .ok (.iconst 2, 1) := by decide +kernel
theorem dX8_init_105 : decode cX8_init 105 = .ok (.newarray .boolean, 2) := by decide +kernel
theorem dX8_init_107 : decode cX8_init 107 = .ok (.putfield 47, 3) := by decide +kernel
theorem dX8_init_110 : decode cX8_init 110 = .ok (.aload_n 0, 1) := by decide +kernel
theorem dX8_init_111 : decode cX8_init 111 = .ok (.bipush 6, 2) := by decide +kernel
theorem dX8_init_113 : decode cX8_init 113 = .ok (.newarray .int, 2) := by decide +kernel
theorem dX8_init_115 : decode cX8_init 115 = .ok (.putfield 50, 3) := by decide +kernel
theorem dX8_init_118 : decode cX8_init 118 = .ok (.aload_n 0, 1) := by decide +kernel
theorem dX8_init_119 : decode cX8_init 119 = .ok (.bipush 6, 2) := by decide +kernel
theorem dX8_init_121 : decode cX8_init 121 = .ok (.newarray .int, 2) := by decide +kernel
theorem dX8_init_123 : decode cX8_init 123 = .ok (.putfield 53, 3) := by decide +kernel
theorem dX8_init_126 : decode cX8_init 126 = .ok (.aload_n 0, 1) := by decide +kernel
theorem dX8_init_127 : decode cX8_init 127 = .ok (.bipush 6, 2) := by decide +kernel
theorem dX8_init_129 : decode cX8_init 129 = .ok (.newarray .int, 2) := by decide +kernel
theorem dX8_init_131 : decode cX8_init 131 = .ok (.putfield 56, 3) := by decide +kernel
theorem dX8_init_134 : decode cX8_init 134 = .ok (.aload_n 0, 1) := by decide +kernel
theorem dX8_init_135 : decode cX8_init 135 = .ok (.sipush 140, 3) := by decide +kernel
theorem dX8_init_138 : decode cX8_init 138 = .ok (.newarray .int, 2) := by decide +kernel
theorem dX8_init_140 : decode cX8_init 140 = .ok (.putfield 59, 3) := by decide +kernel
theorem dX8_init_143 : decode cX8_init 143 = .ok (.aload_n 0, 1) := by decide +kernel
theorem dX8_init_144 : decode cX8_init 144 = .ok (.bipush 10, 2) := by decide +kernel
theorem dX8_init_146 : decode cX8_init 146 = .ok (.newarray .int, 2) := by decide +kernel
theorem dX8_init_148 : decode cX8_init 148 = .ok (.putfield 62, 3) := by decide +kernel
theorem dX8_init_151 : decode cX8_init 151 = .ok (.aload_n 0, 1) := by decide +kernel
theorem dX8_init_152 : decode cX8_init 152 = .ok (.bipush 10, 2) := by decide +kernel
theorem dX8_init_154 : decode cX8_init 154 = .ok (.newarray .int, 2) := by decide +kernel
theorem dX8_init_156 : decode cX8_init 156 = .ok (.putfield 65, 3) := by decide +kernel
theorem dX8_init_159 : decode cX8_init 159 = .ok (.aload_n 0, 1) := by decide +kernel
theorem dX8_init_160 : decode cX8_init 160 = .ok (.bipush 10, 2) := by decide +kernel
theorem dX8_init_162 : decode cX8_init 162 = .ok (.newarray .int, 2) := by decide +kernel
