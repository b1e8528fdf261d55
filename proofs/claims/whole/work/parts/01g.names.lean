theorem dX8_remembers_30 : decode cX8_remembers 30 = .ok (.iadd, 1) := by decide +kernel
theorem dX8_remembers_31 : decode cX8_remembers 31 = .ok (.iaload, 1) := by decide +kernel
theorem dX8_remembers_32 : decode cX8_remembers 32 = .ok (.iastore, 1) := by decide +kernel
theorem dX8_remembers_33 : decode cX8_remembers 33 = .ok (.iinc 1 1, 3) := by decide +kernel
theorem dX8_remembers_36 : decode cX8_remembers 36 = .ok (.goto (-25), 3) := by decide +kernel
theorem dX8_remembers_39 : decode cX8_remembers 39 = .ok (.aload_n 0, 1) := by decide +kernel
theorem dX8_remembers_40 : decode cX8_remembers 40 = .ok (.dup, 1) := by decide +kernel
theorem dX8_remembers_41 : decode cX8_remembers 41 = .ok (.getfield 157, 3) := by decide +kernel
theorem dX8_remembers_44 : decode cX8_remembers 44 = .ok (.iconst 1, 1) := by decide +kernel
theorem dX8_remembers_45 : decode cX8_remembers 45 = .ok (.isub, 1) := by decide +kernel
theorem dX8_remembers_46 : decode cX8_remembers 46 = .ok (.putfield 157, 3) := by decide +kernel
theorem dX8_remembers_49 : decode cX8_remembers 49 = .ok (.iconst 0, 1) := by decide +kernel
theorem dX8_remembers_50 : decode cX8_remembers 50 = .ok (.istore_n 1, 1) := by decide +kernel
theorem dX8_remembers_51 : decode cX8_remembers 51 = .ok (.iload_n 1, 1) := by decide +kernel
theorem dX8_remembers_52 : decode cX8_remembers 52 = .ok (.bipush 17, 2) := by decide +kernel
theorem dX8_remembers_54 : decode cX8_remembers 54 = .ok (.if_icmp .ge 29, 3) := by decide +kernel
theorem dX8_remembers_57 : decode cX8_remembers 57 = .ok (.aload_n 0, 1) := by decide +kernel
theorem dX8_remembers_58 : decode cX8_remembers 58 = .ok (.getfield 41, 3) := by decide +kernel
theorem dX8_remembers_61 : decode cX8_remembers 61 = .ok (.bipush 17, 2) := by decide +kernel
theorem dX8_remembers_63 : decode cX8_remembers 63 = .ok (.aload_n 0, 1) := by decide +kernel
theorem dX8_remembers_64 : decode cX8_remembers 64 = .ok (.getfield 157, 3) := by decide +kernel
theorem dX8_remembers_67 : decode cX8_remembers 67 = .ok (.imul, 1) := by decide +kernel
theorem dX8_remembers_68 : decode cX8_remembers 68 = .ok (.iload_n 1, 1) := by decide +kernel
theorem dX8_remembers_69 : decode cX8_remembers 69 = .ok (.iadd, 1) := by decide +kernel
theorem dX8_remembers_70 : decode cX8_remembers 70 = .ok (.aload_n 0, 1) := by decide +kernel
theorem dX8_remembers_71 : decode cX8_remembers 71 = .ok (.getfield 38, 3) := by decide +kernel
theorem dX8_remembers_74 : decode cX8_remembers 74 = .ok (.iload_n 1, 1) := by decide +kernel
theorem dX8_remembers_75 : decode cX8_remembers 75 = .ok (.iaload, 1) := by decide +kernel
theorem dX8_remembers_76 : decode cX8_remembers 76 = .ok (.iastore, 1) := by decide +kernel
theorem dX8_remembers_77 : decode cX8_remembers 77 = .ok (.iinc 1 1, 3) := by decide +kernel
theorem dX8_remembers_80 : decode cX8_remembers 80 = .ok (.goto (-29), 3) := by decide +kernel
theorem dX8_remembers_83 : decode cX8_remembers 83 = .ok (.aload_n 0, 1) := by decide +kernel
theorem dX8_remembers_84 : decode cX8_remembers 84 = .ok (.dup, 1) := by decide +kernel
theorem dX8_remembers_85 : decode cX8_remembers 85 = .ok (.getfield 157, 3) := by decide +kernel
theorem dX8_remembers_88 : decode cX8_remembers 88 = .ok (.iconst 1, 1) := by decide +kernel
theorem dX8_remembers_89 : decode cX8_remembers 89 = .ok (.iadd, 1) := by decide +kernel
theorem dX8_remembers_90 : decode cX8_remembers 90 = .ok (.putfield 157, 3) := by decide +kernel
theorem dX8_remembers_93 : decode cX8_remembers 93 = .ok (.return_, 1) := by decide +kernel
set_option maxRecDepth 20000 in
theorem ggX8_mayBe_X8_in : GoodIn wsX8_mayBe wsX8_in := goodIn_r _ [4] (by decide +kernel) (by decide +kernel)
set_option maxRecDepth 20000 in
theorem gX8_mayBe_X8_in : GoodIn wsX8_mayBe (va_wsS RX8 105 yX8_in wsX8_in) := goodIn_app (goodIn_of _ (by decide +kernel)) ggX8_mayBe_X8_in
theorem dX8_mayBe_0 : decode cX8_mayBe 0 = .ok (.iload_n 0, 1) := by decide +kernel
theorem dX8_mayBe_1 : decode cX8_mayBe 1 = .ok (.iconst 0, 1) := by decide +kernel
theorem dX8_mayBe_2 : decode cX8_mayBe 2 = .ok (.bipush 63, 2) := by decide +kernel
theorem dX8_mayBe_4 : decode cX8_mayBe 4 = .ok (.invokestatic 105, 3) := by decide +kernel
theorem dX8_mayBe_7 : decode cX8_mayBe 7 = .ok (.ifCond .eq 18, 3) := by decide +kernel
theorem dX8_mayBe_10 : decode cX8_mayBe 10 = .ok (.iload_n 1, 1) := by decide +kernel
theorem dX8_mayBe_11 : decode cX8_mayBe 11 = .ok (.iconst 0, 1) := by decide +kernel
theorem dX8_mayBe_12 : decode cX8_mayBe 12 = .ok (.sipush 480, 3) := by decide +kernel
theorem dX8_mayBe_15 : decode cX8_mayBe 15 = .ok (.invokestatic 105, 3) := by decide +kernel
theorem dX8_mayBe_18 : decode cX8_mayBe 18 = .ok (.ifCond .eq 7, 3) := by decide +kernel
theorem dX8_mayBe_21 : decode cX8_mayBe 21 = .ok (.iconst 1, 1) := by decide +kernel
theorem dX8_mayBe_22 : decode cX8_mayBe 22 = .ok (.goto 4, 3) := by decide +kernel
theorem dX8_mayBe_25 : decode cX8_mayBe 25 = .ok (.iconst 0, 1) := by decide +kernel
theorem dX8_mayBe_26 : decode cX8_mayBe 26 = .ok (.ireturn, 1) := by decide +kernel
theorem dX8_adds_0 : decode cX8_adds 0 = .ok (.aload_n 0, 1) := by decide +kernel
theorem dX8_adds_1 : decode cX8_adds 1 = .ok (.getfield 38, 3) := by decide +kernel
theorem dX8_adds_4 : decode cX8_adds 4 = .ok (.iconst 1, 1) := by decide +kernel
theorem dX8_adds_5 : decode cX8_adds 5 = .ok (.iconst 2, 1) := by decide +kernel
theorem dX8_adds_6 : decode cX8_adds 6 = .ok (.aload_n 0, 1) := by decide +kernel
theorem dX8_adds_7 : decode cX8_adds 7 = .ok (.getfield 38, 3) := by decide +kernel
theorem dX8_adds_10 : decode cX8_adds 10 = .ok (.iconst 0, 1) := by decide +kernel
theorem dX8_adds_11 : decode cX8_adds 11 = .ok (.iaload, 1) := by decide +kernel
theorem dX8_adds_12 : decode cX8_adds 12 = .ok (.imul, 1) := by decide +kernel
theorem dX8_adds_13 : decode cX8_adds 13 = .ok (.iadd, 1) := by decide +kernel
theorem dX8_adds_14 : decode cX8_adds 14 = .ok (.iload_n 1, 1) := by decide +kernel
theorem dX8_adds_15 : decode cX8_adds 15 = .ok (.iastore, 1) := by decide +kernel
theorem dX8_adds_16 : decode cX8_adds 16 = .ok (.aload_n 0, 1) := by decide +kernel
theorem dX8_adds_17 : decode cX8_adds 17 = .ok (.getfield 38, 3) := by decide +kernel
theorem dX8_adds_20 : decode cX8_adds 20 = .ok (.iconst 2, 1) := by decide +kernel
theorem dX8_adds_21 : decode cX8_adds 21 = .ok (.iconst 2, 1) := by decide +kernel
theorem dX8_adds_22 : decode cX8_adds 22 = .ok (.aload_n 0, 1) := by decide +kernel
theorem dX8_adds_23 : decode cX8_adds 23 = .ok (.getfield 38, 3) := by decide +kernel
theorem dX8_adds_26 : decode cX8_adds 26 = .ok (.iconst 0, 1) := by decide +kernel
theorem dX8_adds_27 : decode cX8_adds 27 = .ok (.iaload, 1) := by decide +kernel
theorem dX8_adds_28 : decode cX8_adds 28 = .ok (.imul, 1) := by decide +kernel
theorem dX8_adds_29 : decode cX8_adds 29 = .ok (.iadd, 1) := by decide +kernel
theorem dX8_adds_30 : decode cX8_adds 30 = .ok (.iload_n 2, 1) := by decide +kernel
theorem dX8_adds_31 : decode cX8_adds 31 = .ok (.iastore, 1) := by decide +kernel
theorem dX8_adds_32 : decode cX8_adds 32 = .ok (.aload_n 0, 1) := by decide +kernel
theorem dX8_adds_33 : decode cX8_adds 33 = .ok (.getfield 38, 3) := by decide +kernel
theorem dX8_adds_36 : decode cX8_adds 36 = .ok (.iconst 0, 1) := by decide +kernel
theorem dX8_adds_37 : decode cX8_adds 37 = .ok (.dup2, 1) := by decide +kernel
theorem dX8_adds_38 : decode cX8_adds 38 = .ok (.iaload, 1) := by decide +kernel
theorem dX8_adds_39 : decode cX8_adds 39 = .ok (.iconst 1, 1) := by decide +kernel
theorem dX8_adds_40 : decode cX8_adds 40 = .ok (.iadd, 1) := by decide +kernel
theorem dX8_adds_41 : decode cX8_adds 41 = .ok (.iastore, 1) := by decide +kernel
theorem dX8_adds_42 : decode cX8_adds 42 = .ok (.return_, 1) := by decide +kernel
set_option maxRecDepth 20000 in
theorem ggX8_notes_X8_mayBe : GoodIn wsX8_notes wsX8_mayBe := goodIn_r _ [6, 7, 8, 5, 9] (by decide +kernel) (by decide +kernel)
set_option maxRecDepth 20000 in
theorem gX8_notes_X8_mayBe : GoodIn wsX8_notes (va_wsS RX8 250 yX8_mayBe wsX8_mayBe) := goodIn_app (goodIn_of _ (by decide +kernel)) ggX8_notes_X8_mayBe
set_option maxRecDepth 20000 in
theorem ggX8_notes_X8_remembers : GoodIn wsX8_notes wsX8_remembers := goodIn_r _ [13, 14, 15, 2, 20, 21, 22, 23, 24, 25, 26, 27, 28, 29, 30, 31, 32, 33, 34, 35, 36, 37, 38, 39, 40, 41, 42, 43, 44, 45, 46, 47, 48, 49, 50, 51, 52, 53, 54, 55, 56, 57, 58, 59, 60, 61, 62, 63] (by decide +kernel) (by decide +kernel)
set_option maxRecDepth 20000 in
theorem gX8_notes_X8_remembers : GoodIn wsX8_notes (wsV RX8 253 RX8 yX8_remembers wsX8_remembers) := goodIn_app (goodIn_of _ (by decide +kernel)) ggX8_notes_X8_remembers
set_option maxRecDepth 20000 in
theorem ggX8_notes_X8_adds : GoodIn wsX8_notes wsX8_adds := goodIn_r _ [19, 2, 20, 21, 22, 23, 24, 25, 26, 27, 28, 29, 30, 31, 32, 33, 34, 35, 36, 37, 38, 39, 40, 41, 42, 43, 44, 45, 46, 47, 48, 49, 50, 51, 52, 53, 54, 55, 56, 57, 58, 59, 60, 61, 62, 63] (by decide +kernel) (by decide +kernel)
set_option maxRecDepth 20000 in
theorem gX8_notes_X8_adds : GoodIn wsX8_notes (wsV RX8 256 RX8 yX8_adds wsX8_adds) := goodIn_app (goodIn_of _ (by decide +kernel)) ggX8_notes_X8_adds
theorem dX8_notes_0 : decode cX8_notes 0 = .ok (.aload_n 0, 1) := by decide +kernel
theorem dX8_notes_1 : decode cX8_notes 1 = .ok (.iconst 0, 1) := by decide +kernel
theorem dX8_notes_2 : decode cX8_notes 2 = .ok (.putfield 98, 3) := by decide +kernel
theorem dX8_notes_5 : decode cX8_notes 5 = .ok (.iload_n 1, 1) := by decide +kernel
theorem dX8_notes_6 : decode cX8_notes 6 = .ok (.iload_n 2, 1) := by decide +kernel
theorem dX8_notes_7 : decode cX8_notes 7 = .ok (.invokestatic 250, 3) := by decide +kernel
theorem dX8_notes_10 : decode cX8_notes 10 = .ok (.ifCond .ne 5, 3) := by decide +kernel
theorem dX8_notes_13 : decode cX8_notes 13 = .ok (.iconst (-1), 1) := by decide +kernel
theorem dX8_notes_14 : decode cX8_notes 14 = .ok (.ireturn, 1) := by decide +kernel
theorem dX8_notes_15 : decode cX8_notes 15 = .ok (.aload_n 0, 1) := by decide +kernel
theorem dX8_notes_16 : decode cX8_notes 16 = .ok (.getfield 38, 3) := by decide +kernel
theorem dX8_notes_19 : decode cX8_notes 19 = .ok (.iconst 0, 1) := by decide +kernel
theorem dX8_notes_20 : decode cX8_notes 20 = .ok (.iaload, 1) := by decide +kernel
theorem dX8_notes_21 : decode cX8_notes 21 = .ok (.bipush 8, 2) := by decide +kernel
theorem dX8_notes_23 : decode cX8_notes 23 = .ok (.if_icmp .ne 6, 3) := by decide +kernel
theorem dX8_notes_26 : decode cX8_notes 26 = .ok (.bipush (-3), 2) := by decide +kernel
theorem dX8_notes_28 : decode cX8_notes 28 = .ok (.ireturn, 1) := by decide +kernel
theorem dX8_notes_29 : decode cX8_notes 29 = .ok (.aload_n 0, 1) := by decide +kernel
theorem dX8_notes_30 : decode cX8_notes 30 = .ok (.invokevirtual 253, 3) := by decide +kernel
theorem dX8_notes_33 : decode cX8_notes 33 = .ok (.aload_n 0, 1) := by decide +kernel
theorem dX8_notes_34 : decode cX8_notes 34 = .ok (.iload_n 1, 1) := by decide +kernel
theorem dX8_notes_35 : decode cX8_notes 35 = .ok (.iload_n 2, 1) := by decide +kernel
theorem dX8_notes_36 : decode cX8_notes 36 = .ok (.invokevirtual 256, 3) := by decide +kernel
theorem dX8_notes_39 : decode cX8_notes 39 = .ok (.aload_n 0, 1) := by decide +kernel
theorem dX8_notes_40 : decode cX8_notes 40 = .ok (.getfield 38, 3) := by decide +kernel
theorem dX8_notes_43 : decode cX8_notes 43 = .ok (.iconst 0, 1) := by decide +kernel
theorem dX8_notes_44 : decode cX8_notes 44 = .ok (.iaload, 1) := by decide +kernel
theorem dX8_notes_45 : decode cX8_notes 45 = .ok (.ireturn, 1) := by decide +kernel
set_option maxRecDepth 20000 in
theorem ggX8_erases_X8_isNotch : GoodIn wsX8_erases wsX8_isNotch := goodIn_r _ [7, 2, 8, 9, 6, 10, 17, 18, 19, 20, 21, 22, 23, 24, 25, 26, 27, 28, 29, 30, 31, 32, 33, 34, 35, 36, 37, 38, 39, 40, 41, 42, 43, 44, 45, 46, 47, 48, 49, 50, 51, 52, 53, 54, 55, 56, 57, 58, 59, 60] (by decide +kernel) (by decide +kernel)
set_option maxRecDepth 20000 in
theorem gX8_erases_X8_isNotch : GoodIn wsX8_erases (wsV RX8 226 RX8 yX8_isNotch wsX8_isNotch) := goodIn_app (goodIn_of _ (by decide +kernel)) ggX8_erases_X8_isNotch
set_option maxRecDepth 20000 in
theorem ggX8_erases_X8_remembers : GoodIn wsX8_erases wsX8_remembers := goodIn_r _ [14, 15, 16, 2, 17, 18, 19, 20, 21, 22, 23, 24, 25, 26, 27, 28, 29, 30, 31, 32, 33, 34, 35, 36, 37, 38, 39, 40, 41, 42, 43, 44, 45, 46, 47, 48, 49, 50, 51, 52, 53, 54, 55, 56, 57, 58, 59, 60] (by decide +kernel) (by decide +kernel)
set_option maxRecDepth 20000 in
theorem gX8_erases_X8_remembers : GoodIn wsX8_erases (wsV RX8 253 RX8 yX8_remembers wsX8_remembers) := goodIn_app (goodIn_of _ (by decide +kernel)) ggX8_erases_X8_remembers
theorem dX8_erases_0 : decode cX8_erases 0 = .ok (.aload_n 0, 1) := by decide +kernel
theorem dX8_erases_1 : decode cX8_erases 1 = .ok (.iconst 0, 1) := by decide +kernel
theorem dX8_erases_2 : decode cX8_erases 2 = .ok (.putfield 98, 3) := by decide +kernel
theorem dX8_erases_5 : decode cX8_erases 5 = .ok (.aload_n 0, 1) := by decide +kernel
theorem dX8_erases_6 : decode cX8_erases 6 = .ok (.iload_n 1, 1) := by decide +kernel
theorem dX8_erases_7 : decode cX8_erases 7 = .ok (.invokevirtual 226, 3) := by decide +kernel
theorem dX8_erases_10 : decode cX8_erases 10 = .ok (.ifCond .ne 5, 3) := by decide +kernel
theorem dX8_erases_13 : decode cX8_erases 13 = .ok (.iconst (-1), 1) := by decide +kernel
theorem dX8_erases_14 : decode cX8_erases 14 = .ok (.ireturn, 1) := by decide +kernel
theorem dX8_erases_15 : decode cX8_erases 15 = .ok (.aload_n 0, 1) := by decide +kernel
theorem dX8_erases_16 : decode cX8_erases 16 = .ok (.invokevirtual 253, 3) := by decide +kernel
theorem dX8_erases_19 : decode cX8_erases 19 = .ok (.aload_n 0, 1) := by decide +kernel
theorem dX8_erases_20 : decode cX8_erases 20 = .ok (.getfield 38, 3) := by decide +kernel
theorem dX8_erases_23 : decode cX8_erases 23 = .ok (.iconst 0, 1) := by decide +kernel
theorem dX8_erases_24 : decode cX8_erases 24 = .ok (.dup2, 1) := by decide +kernel
theorem dX8_erases_25 : decode cX8_erases 25 = .ok (.iaload, 1) := by decide +kernel
theorem dX8_erases_26 : decode cX8_erases 26 = .ok (.iconst 1, 1) := by decide +kernel
theorem dX8_erases_27 : decode cX8_erases 27 = .ok (.isub, 1) := by decide +kernel
theorem dX8_erases_28 : decode cX8_erases 28 = .ok (.iastore, 1) := by decide +kernel
theorem dX8_erases_29 : decode cX8_erases 29 = .ok (.iconst 1, 1) := by decide +kernel
theorem dX8_erases_30 : decode cX8_erases 30 = .ok (.iconst 2, 1) := by decide +kernel
theorem dX8_erases_31 : decode cX8_erases 31 = .ok (.iload_n 1, 1) := by decide +kernel
theorem dX8_erases_32 : decode cX8_erases 32 = .ok (.imul, 1) := by decide +kernel
theorem dX8_erases_33 : decode cX8_erases 33 = .ok (.iadd, 1) := by decide +kernel
theorem dX8_erases_34 : decode cX8_erases 34 = .ok (.istore_n 2, 1) := by decide +kernel
theorem dX8_erases_35 : decode cX8_erases 35 = .ok (.iload_n 2, 1) := by decide +kernel
theorem dX8_erases_36 : decode cX8_erases 36 = .ok (.iconst 1, 1) := by decide +kernel
theorem dX8_erases_37 : decode cX8_erases 37 = .ok (.iconst 2, 1) := by decide +kernel
theorem dX8_erases_38 : decode cX8_erases 38 = .ok (.aload_n 0, 1) := by decide +kernel
theorem dX8_erases_39 : decode cX8_erases 39 = .ok (.getfield 38, 3) := by decide +kernel
theorem dX8_erases_42 : decode cX8_erases 42 = .ok (.iconst 0, 1) := by decide +kernel
theorem dX8_erases_43 : decode cX8_erases 43 = .ok (.iaload, 1) := by decide +kernel
theorem dX8_erases_44 : decode cX8_erases 44 = .ok (.imul, 1) := by decide +kernel
theorem dX8_erases_45 : decode cX8_erases 45 = .ok (.iadd, 1) := by decide +kernel
theorem dX8_erases_46 : decode cX8_erases 46 = .ok (.if_icmp .ge 23, 3) := by decide +kernel
theorem dX8_erases_49 : decode cX8_erases 49 = .ok (.aload_n 0, 1) := by decide +kernel
theorem dX8_erases_50 : decode cX8_erases 50 = .ok (.getfield 38, 3) := by decide +kernel
theorem dX8_erases_53 : decode cX8_erases 53 = .ok (.iload_n 2, 1) := by decide +kernel
theorem dX8_erases_54 : decode cX8_erases 54 = .ok (.aload_n 0, 1) := by decide +kernel
theorem dX8_erases_55 : decode cX8_erases 55 = .ok (.getfield 38, 3) := by decide +kernel
theorem dX8_erases_58 : decode cX8_erases 58 = .ok (.iload_n 2, 1) := by decide +kernel
theorem dX8_erases_59 : decode cX8_erases 59 = .ok (.iconst 2, 1) := by decide +kernel
theorem dX8_erases_60 : decode cX8_erases 60 = .ok (.iadd, 1) := by decide +kernel
theorem dX8_erases_61 : decode cX8_erases 61 = .ok (.iaload, 1) := by decide +kernel
theorem dX8_erases_62 : decode cX8_erases 62 = .ok (.iastore, 1) := by decide +kernel
theorem dX8_erases_63 : decode cX8_erases 63 = .ok (.iinc 2 1, 3) := by decide +kernel
theorem dX8_erases_66 : decode cX8_erases 66 = .ok (.goto (-31), 3) := by decide +kernel
theorem dX8_erases_69 : decode cX8_erases 69 = .ok (.aload_n 0, 1) := by decide +kernel
theorem dX8_erases_70 : decode cX8_erases 70 = .ok (.getfield 38, 3) := by decide +kernel
theorem dX8_erases_73 : decode cX8_erases 73 = .ok (.iconst 0, 1) := by decide +kernel
theorem dX8_erases_74 : decode cX8_erases 74 = .ok (.iaload, 1) := by decide +kernel
theorem dX8_erases_75 : decode cX8_erases 75 = .ok (.ireturn, 1) := by decide +kernel
set_option maxRecDepth 20000 in
theorem ggX8_mends_X8_isNotch : GoodIn wsX8_mends wsX8_isNotch := goodIn_r _ [7, 2, 8, 9, 6, 10, 20, 21, 22, 23, 24, 25, 26, 27, 28, 29, 30, 31, 32, 33, 34, 35, 36, 37, 38, 39, 40, 41, 42, 43, 44, 45, 46, 47, 48, 49, 50, 51, 52, 53, 54, 55, 56, 57, 58, 59, 60, 61, 62, 63] (by decide +kernel) (by decide +kernel)
set_option maxRecDepth 20000 in
theorem gX8_mends_X8_isNotch : GoodIn wsX8_mends (wsV RX8 226 RX8 yX8_isNotch wsX8_isNotch) := goodIn_app (goodIn_of _ (by decide +kernel)) ggX8_mends_X8_isNotch
set_option maxRecDepth 20000 in
theorem ggX8_mends_X8_mayBe : GoodIn wsX8_mends wsX8_mayBe := goodIn_r _ [13, 8, 9, 6, 10] (by decide +kernel) (by decide +kernel)
set_option maxRecDepth 20000 in
theorem gX8_mends_X8_mayBe : GoodIn wsX8_mends (va_wsS RX8 250 yX8_mayBe wsX8_mayBe) := goodIn_app (goodIn_of _ (by decide +kernel)) ggX8_mends_X8_mayBe
set_option maxRecDepth 20000 in
theorem ggX8_mends_X8_remembers : GoodIn wsX8_mends wsX8_remembers := goodIn_r _ [17, 18, 19, 2, 20, 21, 22, 23, 24, 25, 26, 27, 28, 29, 30, 31, 32, 33, 34, 35, 36, 37, 38, 39, 40, 41, 42, 43, 44, 45, 46, 47, 48, 49, 50, 51, 52, 53, 54, 55, 56, 57, 58, 59, 60, 61, 62, 63] (by decide +kernel) (by decide +kernel)
set_option maxRecDepth 20000 in
theorem gX8_mends_X8_remembers : GoodIn wsX8_mends (wsV RX8 253 RX8 yX8_remembers wsX8_remembers) := goodIn_app (goodIn_of _ (by decide +kernel)) ggX8_mends_X8_remembers
theorem dX8_mends_0 : decode cX8_mends 0 = .ok (.aload_n 0, 1) := by decide +kernel
theorem dX8_mends_1 : decode cX8_mends 1 = .ok (.iconst 0, 1) := by decide +kernel
theorem dX8_mends_2 : decode cX8_mends 2 = .ok (.putfield 98, 3) := by decide +kernel
theorem dX8_mends_5 : decode cX8_mends 5 = .ok (.aload_n 0, 1) := by decide +kernel
theorem dX8_mends_6 : decode cX8_mends 6 = .ok (.iload_n 1, 1) := by decide +kernel
theorem dX8_mends_7 : decode cX8_mends 7 = .ok (.invokevirtual 226, 3) := by decide +kernel
theorem dX8_mends_10 : decode cX8_mends 10 = .ok (.ifCond .eq 11, 3) := by decide +kernel
theorem dX8_mends_13 : decode cX8_mends 13 = .ok (.iload_n 2, 1) := by decide +kernel
theorem dX8_mends_14 : decode cX8_mends 14 = .ok (.iload_n 3, 1) := by decide +kernel
theorem dX8_mends_15 : decode cX8_mends 15 = .ok (.invokestatic 250, 3) := by decide +kernel
theorem dX8_mends_18 : decode cX8_mends 18 = .ok (.ifCond .ne 5, 3) := by decide +kernel
theorem dX8_mends_21 : decode cX8_mends 21 = .ok (.iconst (-1), 1) := by decide +kernel
theorem dX8_mends_22 : decode cX8_mends 22 = .ok (.ireturn, 1) := by decide +kernel
theorem dX8_mends_23 : decode cX8_mends 23 = .ok (.aload_n 0, 1) := by decide +kernel
theorem dX8_mends_24 : decode cX8_mends 24 = .ok (.getfield 38, 3) := by decide +kernel
theorem dX8_mends_27 : decode cX8_mends 27 = .ok (.iconst 1, 1) := by decide +kernel
theorem dX8_mends_28 : decode cX8_mends 28 = .ok (.iconst 2, 1) := by decide +kernel
theorem dX8_mends_29 : decode cX8_mends 29 = .ok (.iload_n 1, 1) := by decide +kernel
theorem dX8_mends_30 : decode cX8_mends 30 = .ok (.imul, 1) := by decide +kernel
theorem dX8_mends_31 : decode cX8_mends 31 = .ok (.iadd, 1) := by decide +kernel
theorem dX8_mends_32 : decode cX8_mends 32 = .ok (.iaload, 1) := by decide +kernel
theorem dX8_mends_33 : decode cX8_mends 33 = .ok (.iload_n 2, 1) := by decide +kernel
theorem dX8_mends_34 : decode cX8_mends 34 = .ok (.if_icmp .ne 20, 3) := by decide +kernel
theorem dX8_mends_37 : decode cX8_mends 37 = .ok (.aload_n 0, 1) := by decide +kernel
theorem dX8_mends_38 : decode cX8_mends 38 = .ok (.getfield 38, 3) := by decide +kernel
theorem dX8_mends_41 : decode cX8_mends 41 = .ok (.iconst 2, 1) := by decide +kernel
theorem dX8_mends_42 : decode cX8_mends 42 = .ok (.iconst 2, 1) := by decide +kernel
theorem dX8_mends_43 : decode cX8_mends 43 = .ok (.iload_n 1, 1) := by decide +kernel
theorem dX8_mends_44 : decode cX8_mends 44 = .ok (.imul, 1) := by decide +kernel
theorem dX8_mends_45 : decode cX8_mends 45 = .ok (.iadd, 1) := by decide +kernel
theorem dX8_mends_46 : decode cX8_mends 46 = .ok (.iaload, 1) := by decide +kernel
theorem dX8_mends_47 : decode cX8_mends 47 = .ok (.iload_n 3, 1) := by decide +kernel
theorem dX8_mends_48 : decode cX8_mends 48 = .ok (.if_icmp .ne 6, 3) := by decide +kernel
theorem dX8_mends_51 : decode cX8_mends 51 = .ok (.bipush (-2), 2) := by decide +kernel
theorem dX8_mends_53 : decode cX8_mends 53 = .ok (.ireturn, 1) := by decide +kernel
theorem dX8_mends_54 : decode cX8_mends 54 = .ok (.aload_n 0, 1) := by decide +kernel
theorem dX8_mends_55 : decode cX8_mends 55 = .ok (.invokevirtual 253, 3) := by decide +kernel
theorem dX8_mends_58 : decode cX8_mends 58 = .ok (.aload_n 0, 1) := by decide +kernel
theorem dX8_mends_59 : decode cX8_mends 59 = .ok (.getfield 38, 3) := by decide +kernel
theorem dX8_mends_62 : decode cX8_mends 62 = .ok (.iconst 1, 1) := by decide +kernel
theorem dX8_mends_63 : decode cX8_mends 63 = .ok (.iconst 2, 1) := by decide +kernel
theorem dX8_mends_64 : decode cX8_mends 64 = .ok (.iload_n 1, 1) := by decide +kernel
theorem dX8_mends_65 : decode cX8_mends 65 = .ok (.imul, 1) := by decide +kernel
theorem dX8_mends_66 : decode cX8_mends 66 = .ok (.iadd, 1) := by decide +kernel
theorem dX8_mends_67 : decode cX8_mends 67 = .ok (.iload_n 2, 1) := by decide +kernel
theorem dX8_mends_68 : decode cX8_mends 68 = .ok (.iastore, 1) := by decide +kernel
theorem dX8_mends_69 : decode cX8_mends 69 = .ok (.aload_n 0, 1) := by decide +kernel
theorem dX8_mends_70 : decode cX8_mends 70 = .ok (.getfield 38, 3) := by decide +kernel
theorem dX8_mends_73 : decode cX8_mends 73 = .ok (.iconst 2, 1) := by decide +kernel
theorem dX8_mends_74 : decode cX8_mends 74 = .ok (.iconst 2, 1) := by decide +kernel
theorem dX8_mends_75 : decode cX8_mends 75 = .ok (.iload_n 1, 1) := by decide +kernel
theorem dX8_mends_76 : decode cX8_mends 76 = .ok (.imul, 1) := by decide +kernel
theorem dX8_mends_77 : decode cX8_mends 77 = .ok (.iadd, 1) := by decide +kernel
theorem dX8_mends_78 : decode cX8_mends 78 = .ok (.iload_n 3, 1) := by decide +kernel
theorem dX8_mends_79 : decode cX8_mends 79 = .ok (.iastore, 1) := by decide +kernel
theorem dX8_mends_80 : decode cX8_mends 80 = .ok (.iconst 1, 1) := by decide +kernel
theorem dX8_mends_81 : decode cX8_mends 81 = .ok (.ireturn, 1) := by decide +kernel
set_option maxRecDepth 20000 in
theorem ggX8_sketches_X8_isThere : GoodIn wsX8_sketches wsX8_isThere := goodIn_r _ [9, 10, 11, 12, 8, 13, 51, 52, 53, 54, 55, 56, 57, 58, 59, 60, 61, 62, 63, 64, 65, 66, 67, 68, 69, 70, 71, 72, 73, 74, 75, 76, 77, 78, 79, 80, 81, 82, 83, 84, 85, 86, 87, 88, 89, 90, 91, 92, 93, 94] (by decide +kernel) (by decide +kernel)
set_option maxRecDepth 20000 in
theorem gX8_sketches_X8_isThere : GoodIn wsX8_sketches (wsV RX8 200 RX8 yX8_isThere wsX8_isThere) := goodIn_app (goodIn_of _ (by decide +kernel)) ggX8_sketches_X8_isThere
set_option maxRecDepth 20000 in
theorem ggX8_sketches_X8_isLook : GoodIn wsX8_sketches wsX8_isLook := goodIn_r _ [16, 11, 12, 8, 13] (by decide +kernel) (by decide +kernel)
set_option maxRecDepth 20000 in
theorem gX8_sketches_X8_isLook : GoodIn wsX8_sketches (va_wsS RX8 223 yX8_isLook wsX8_isLook) := goodIn_app (goodIn_of _ (by decide +kernel)) ggX8_sketches_X8_isLook
set_option maxRecDepth 20000 in
theorem ggX8_sketches_X8_remembers : GoodIn wsX8_sketches wsX8_remembers := goodIn_r _ [20, 21, 22, 2, 51, 52, 53, 54, 55, 56, 57, 58, 59, 60, 61, 62, 63, 64, 65, 66, 67, 68, 69, 70, 71, 72, 73, 74, 75, 76, 77, 78, 79, 80, 81, 82, 83, 84, 85, 86, 87, 88, 89, 90, 91, 92, 93, 94] (by decide +kernel) (by decide +kernel)
set_option maxRecDepth 20000 in
theorem gX8_sketches_X8_remembers : GoodIn wsX8_sketches (wsV RX8 253 RX8 yX8_remembers wsX8_remembers) := goodIn_app (goodIn_of _ (by decide +kernel)) ggX8_sketches_X8_remembers
set_option maxRecDepth 20000 in
theorem ggX8_sketches_X8_panoramaAt : GoodIn wsX8_sketches wsX8_panoramaAt := goodIn_r _ [26, 27, 28, 29, 30, 31, 8, 32, 33, 34, 35, 36, 37, 38, 39, 40, 41, 42, 43, 44, 45, 46, 51, 52, 53, 54, 55, 56, 57, 58, 59, 60, 61, 62, 63, 64, 65, 66, 67, 68, 69, 70, 71, 72, 73, 74, 75, 76, 77, 78, 79, 80, 81, 82, 83, 84, 85, 86, 87, 88, 89, 90, 91, 92, 93, 94] (by decide +kernel) (by decide +kernel)
set_option maxRecDepth 20000 in
theorem gX8_sketches_X8_panoramaAt : GoodIn wsX8_sketches (wsV RX8 209 RX8 yX8_panoramaAt wsX8_panoramaAt) := goodIn_app (goodIn_of _ (by decide +kernel)) ggX8_sketches_X8_panoramaAt
set_option maxRecDepth 20000 in
theorem ggX8_sketches_X8_adds : GoodIn wsX8_sketches wsX8_adds := goodIn_r _ [50, 2, 51, 52, 53, 54, 55, 56, 57, 58, 59, 60, 61, 62, 63, 64, 65, 66, 67, 68, 69, 70, 71, 72, 73, 74, 75, 76, 77, 78, 79, 80, 81, 82, 83, 84, 85, 86, 87, 88, 89, 90, 91, 92, 93, 94] (by decide +kernel) (by decide +kernel)
set_option maxRecDepth 20000 in
theorem gX8_sketches_X8_adds : GoodIn wsX8_sketches (wsV RX8 256 RX8 yX8_adds wsX8_adds) := goodIn_app (goodIn_of _ (by decide +kernel)) ggX8_sketches_X8_adds
theorem dX8_sketches_0 : decode cX8_sketches 0 = .ok (.aload_n 0, 1) := by decide +kernel
theorem dX8_sketches_1 : decode cX8_sketches 1 = .ok (.iconst 0, 1) := by decide +kernel
theorem dX8_sketches_2 : decode cX8_sketches 2 = .ok (.putfield 98, 3) := by decide +kernel
theorem dX8_sketches_5 : decode cX8_sketches 5 = .ok (.aload_n 0, 1) := by decide +kernel
theorem dX8_sketches_6 : decode cX8_sketches 6 = .ok (.iload_n 1, 1) := by decide +kernel
theorem dX8_sketches_7 : decode cX8_sketches 7 = .ok (.iload_n 2, 1) := by decide +kernel
theorem dX8_sketches_8 : decode cX8_sketches 8 = .ok (.invokevirtual 200, 3) := by decide +kernel
theorem dX8_sketches_11 : decode cX8_sketches 11 = .ok (.ifCond .eq 10, 3) := by decide +kernel
theorem dX8_sketches_14 : decode cX8_sketches 14 = .ok (.iload_n 3, 1) := by decide +kernel
theorem dX8_sketches_15 : decode cX8_sketches 15 = .ok (.invokestatic 223, 3) := by decide +kernel
theorem dX8_sketches_18 : decode cX8_sketches 18 = .ok (.ifCond .ne 5, 3) := by decide +kernel
theorem dX8_sketches_21 : decode cX8_sketches 21 = .ok (.iconst (-1), 1) := by decide +kernel
theorem dX8_sketches_22 : decode cX8_sketches 22 = .ok (.ireturn, 1) := by decide +kernel
theorem dX8_sketches_23 : decode cX8_sketches 23 = .ok (.aload_n 0, 1) := by decide +kernel
theorem dX8_sketches_24 : decode cX8_sketches 24 = .ok (.invokevirtual 253, 3) := by decide +kernel
theorem dX8_sketches_27 : decode cX8_sketches 27 = .ok (.aload_n 0, 1) := by decide +kernel
theorem dX8_sketches_28 : decode cX8_sketches 28 = .ok (.getfield 38, 3) := by decide +kernel
theorem dX8_sketches_31 : decode cX8_sketches 31 = .ok (.iconst 0, 1) := by decide +kernel
theorem dX8_sketches_32 : decode cX8_sketches 32 = .ok (.iconst 0, 1) := by decide +kernel
theorem dX8_sketches_33 : decode cX8_sketches 33 = .ok (.iastore, 1) := by decide +kernel
theorem dX8_sketches_34 : decode cX8_sketches 34 = .ok (.bipush 10, 2) := by decide +kernel
theorem dX8_sketches_36 : decode cX8_sketches 36 = .ok (.bipush 8, 2) := by decide +kernel
theorem dX8_sketches_38 : decode cX8_sketches 38 = .ok (.iload_n 1, 1) := by decide +kernel
theorem dX8_sketches_39 : decode cX8_sketches 39 = .ok (.imul, 1) := by decide +kernel
theorem dX8_sketches_40 : decode cX8_sketches 40 = .ok (.iload_n 2, 1) := by decide +kernel
theorem dX8_sketches_41 : decode cX8_sketches 41 = .ok (.iadd, 1) := by decide +kernel
theorem dX8_sketches_42 : decode cX8_sketches 42 = .ok (.imul, 1) := by decide +kernel
theorem dX8_sketches_43 : decode cX8_sketches 43 = .ok (.istore 4, 2) := by decide +kernel
theorem dX8_sketches_45 : decode cX8_sketches 45 = .ok (.iconst 0, 1) := by decide +kernel
theorem dX8_sketches_46 : decode cX8_sketches 46 = .ok (.istore 5, 2) := by decide +kernel
theorem dX8_sketches_48 : decode cX8_sketches 48 = .ok (.iload 5, 2) := by decide +kernel
theorem dX8_sketches_50 : decode cX8_sketches 50 = .ok (.bipush 8, 2) := by decide +kernel
theorem dX8_sketches_52 : decode cX8_sketches 52 = .ok (.if_icmp .ge 63, 3) := by decide +kernel
theorem dX8_sketches_55 : decode cX8_sketches 55 = .ok (.iload 5, 2) := by decide +kernel
theorem dX8_sketches_57 : decode cX8_sketches 57 = .ok (.aload_n 0, 1) := by decide +kernel
theorem dX8_sketches_58 : decode cX8_sketches 58 = .ok (.iload_n 1, 1) := by decide +kernel
theorem dX8_sketches_59 : decode cX8_sketches 59 = .ok (.iload_n 2, 1) := by decide +kernel
theorem dX8_sketches_60 : decode cX8_sketches 60 = .ok (.iconst (-1), 1) := by decide +kernel
theorem dX8_sketches_61 : decode cX8_sketches 61 = .ok (.invokevirtual 209, 3) := by decide +kernel
theorem dX8_sketches_64 : decode cX8_sketches 64 = .ok (.if_icmp .ge 51, 3) := by decide +kernel
theorem dX8_sketches_67 : decode cX8_sketches 67 = .ok (.aload_n 0, 1) := by decide +kernel
theorem dX8_sketches_68 : decode cX8_sketches 68 = .ok (.iload_n 1, 1) := by decide +kernel
theorem dX8_sketches_69 : decode cX8_sketches 69 = .ok (.iload_n 2, 1) := by decide +kernel
theorem dX8_sketches_70 : decode cX8_sketches 70 = .ok (.iload 5, 2) := by decide +kernel
theorem dX8_sketches_72 : decode cX8_sketches 72 = .ok (.invokevirtual 209, 3) := by decide +kernel
theorem dX8_sketches_75 : decode cX8_sketches 75 = .ok (.istore 6, 2) := by decide +kernel
theorem dX8_sketches_77 : decode cX8_sketches 77 = .ok (.aload_n 0, 1) := by decide +kernel
theorem dX8_sketches_78 : decode cX8_sketches 78 = .ok (.aload_n 0, 1) := by decide +kernel
theorem dX8_sketches_79 : decode cX8_sketches 79 = .ok (.getfield 32, 3) := by decide +kernel
theorem dX8_sketches_82 : decode cX8_sketches 82 = .ok (.iload 4, 2) := by decide +kernel
theorem dX8_sketches_84 : decode cX8_sketches 84 = .ok (.iload 6, 2) := by decide +kernel
theorem dX8_sketches_86 : decode cX8_sketches 86 = .ok (.iadd, 1) := by decide +kernel
theorem dX8_sketches_87 : decode cX8_sketches 87 = .ok (.iaload, 1) := by decide +kernel
theorem dX8_sketches_88 : decode cX8_sketches 88 = .ok (.iload_n 3, 1) := by decide +kernel
theorem dX8_sketches_89 : decode cX8_sketches 89 = .ok (.isub, 1) := by decide +kernel
theorem dX8_sketches_90 : decode cX8_sketches 90 = .ok (.bipush 64, 2) := by decide +kernel
theorem dX8_sketches_92 : decode cX8_sketches 92 = .ok (.iadd, 1) := by decide +kernel
theorem dX8_sketches_93 : decode cX8_sketches 93 = .ok (.bipush 64, 2) := by decide +kernel
theorem dX8_sketches_95 : decode cX8_sketches 95 = .ok (.irem, 1) := by decide +kernel
theorem dX8_sketches_96 : decode cX8_sketches 96 = .ok (.aload_n 0, 1) := by decide +kernel
theorem dX8_sketches_97 : decode cX8_sketches 97 = .ok (.getfield 35, 3) := by decide +kernel
theorem dX8_sketches_100 : decode cX8_sketches 100 = .ok (.iload 4, 2) := by decide +kernel
theorem dX8_sketches_102 : decode cX8_sketches 102 = .ok (.iload 6, 2) := by decide +kernel
theorem dX8_sketches_104 : decode cX8_sketches 104 = .ok (.iadd, 1) := by decide +kernel
theorem dX8_sketches_105 : decode cX8_sketches 105 = .ok (.iaload, 1) := by decide +kernel
theorem dX8_sketches_106 : decode cX8_sketches 106 = .ok (.invokevirtual 256, 3) := by decide +kernel
theorem dX8_sketches_109 : decode cX8_sketches 109 = .ok (.iinc 5 1, 3) := by decide +kernel
theorem dX8_sketches_112 : decode cX8_sketches 112 = .ok (.goto (-64), 3) := by decide +kernel
theorem dX8_sketches_115 : decode cX8_sketches 115 = .ok (.aload_n 0, 1) := by decide +kernel
theorem dX8_sketches_116 : decode cX8_sketches 116 = .ok (.getfield 38, 3) := by decide +kernel
theorem dX8_sketches_119 : decode cX8_sketches 119 = .ok (.iconst 0, 1) := by decide +kernel
theorem dX8_sketches_120 : decode cX8_sketches 120 = .ok (.iaload, 1) := by decide +kernel
theorem dX8_sketches_121 : decode cX8_sketches 121 = .ok (.ireturn, 1) := by decide +kernel
theorem dX8_undo_0 : decode cX8_undo 0 = .ok (.aload_n 0, 1) := by decide +kernel
theorem dX8_undo_1 : decode cX8_undo 1 = .ok (.iconst 0, 1) := by decide +kernel
theorem dX8_undo_2 : decode cX8_undo 2 = .ok (.putfield 98, 3) := by decide +kernel
theorem dX8_undo_5 : decode cX8_undo 5 = .ok (.aload_n 0, 1) := by decide +kernel
theorem dX8_undo_6 : decode cX8_undo 6 = .ok (.getfield 157, 3) := by decide +kernel
theorem dX8_undo_9 : decode cX8_undo 9 = .ok (.ifCond .ne 6, 3) := by decide +kernel
theorem dX8_undo_12 : decode cX8_undo 12 = .ok (.bipush (-2), 2) := by decide +kernel
theorem dX8_undo_14 : decode cX8_undo 14 = .ok (.ireturn, 1) := by decide +kernel
theorem dX8_undo_15 : decode cX8_undo 15 = .ok (.aload_n 0, 1) := by decide +kernel
theorem dX8_undo_16 : decode cX8_undo 16 = .ok (.dup, 1) := by decide +kernel
theorem dX8_undo_17 : decode cX8_undo 17 = .ok (.getfield 157, 3) := by decide +kernel
theorem dX8_undo_20 : decode cX8_undo 20 = .ok (.iconst 1, 1) := by decide +kernel
theorem dX8_undo_21 : decode cX8_undo 21 = .ok (.isub, 1) := by decide +kernel
theorem dX8_undo_22 : decode cX8_undo 22 = .ok (.putfield 157, 3) := by decide +kernel
theorem dX8_undo_25 : decode cX8_undo 25 = .ok (.iconst 0, 1) := by decide +kernel
theorem dX8_undo_26 : decode cX8_undo 26 = .ok (.istore_n 1, 1) := by decide +kernel
theorem dX8_undo_27 : decode cX8_undo 27 = .ok (.iload_n 1, 1) := by decide +kernel
theorem dX8_undo_28 : decode cX8_undo 28 = .ok (.bipush 17, 2) := by decide +kernel
theorem dX8_undo_30 : decode cX8_undo 30 = .ok (.if_icmp .ge 29, 3) := by decide +kernel
theorem dX8_undo_33 : decode cX8_undo 33 = .ok (.aload_n 0, 1) := by decide +kernel
theorem dX8_undo_34 : decode cX8_undo 34 = .ok (.getfield 38, 3) := by decide +kernel
theorem dX8_undo_37 : decode cX8_undo 37 = .ok (.iload_n 1, 1) := by decide +kernel
theorem dX8_undo_38 : decode cX8_undo 38 = .ok (.aload_n 0, 1) := by decide +kernel
theorem dX8_undo_39 : decode cX8_undo 39 = .ok (.getfield 41, 3) := by decide +kernel
theorem dX8_undo_42 : decode cX8_undo 42 = .ok (.bipush 17, 2) := by decide +kernel
theorem dX8_undo_44 : decode cX8_undo 44 = .ok (.aload_n 0, 1) := by decide +kernel
theorem dX8_undo_45 : decode cX8_undo 45 = .ok (.getfield 157, 3) := by decide +kernel
theorem dX8_undo_48 : decode cX8_undo 48 = .ok (.imul, 1) := by decide +kernel
theorem dX8_undo_49 : decode cX8_undo 49 = .ok (.iload_n 1, 1) := by decide +kernel
theorem dX8_undo_50 : decode cX8_undo 50 = .ok (.iadd, 1) := by decide +kernel
theorem dX8_undo_51 : decode cX8_undo 51 = .ok (.iaload, 1) := by decide +kernel
theorem dX8_undo_52 : decode cX8_undo 52 = .ok (.iastore, 1) := by decide +kernel
theorem dX8_undo_53 : decode cX8_undo 53 = .ok (.iinc 1 1, 3) := by decide +kernel
theorem dX8_undo_56 : decode cX8_undo 56 = .ok (.goto (-29), 3) := by decide +kernel
theorem dX8_undo_59 : decode cX8_undo 59 = .ok (.aload_n 0, 1) := by decide +kernel
theorem dX8_undo_60 : decode cX8_undo 60 = .ok (.getfield 157, 3) := by decide +kernel
theorem dX8_undo_63 : decode cX8_undo 63 = .ok (.ireturn, 1) := by decide +kernel
set_option maxRecDepth 20000 in
theorem ggX8_notch_X8_isNotch : GoodIn wsX8_notch wsX8_isNotch := goodIn_r _ [7, 2, 8, 9, 6, 10, 11, 12, 13, 14, 15, 16, 17, 18, 19, 20, 21, 22, 23, 24, 25, 26, 27, 28, 29, 30, 31, 32, 33, 34, 35, 36, 37, 38, 39, 40, 41, 42, 43, 44, 45, 46, 47, 48, 49, 50, 51, 52, 53, 54] (by decide +kernel) (by decide +kernel)
set_option maxRecDepth 20000 in
theorem gX8_notch_X8_isNotch : GoodIn wsX8_notch (wsV RX8 226 RX8 yX8_isNotch wsX8_isNotch) := goodIn_app (goodIn_of _ (by decide +kernel)) ggX8_notch_X8_isNotch
set_option maxRecDepth 20000 in
theorem ggX8_notch_X8_in : GoodIn wsX8_notch wsX8_in := goodIn_r _ [10] (by decide +kernel) (by decide +kernel)
set_option maxRecDepth 20000 in
theorem gX8_notch_X8_in : GoodIn wsX8_notch (va_wsS RX8 105 yX8_in wsX8_in) := goodIn_app (goodIn_of _ (by decide +kernel)) ggX8_notch_X8_in
theorem dX8_notch_0 : decode cX8_notch 0 = .ok (.aload_n 0, 1) := by decide +kernel
theorem dX8_notch_1 : decode cX8_notch 1 = .ok (.iconst 0, 1) := by decide +kernel
theorem dX8_notch_2 : decode cX8_notch 2 = .ok (.putfield 98, 3) := by decide +kernel
theorem dX8_notch_5 : decode cX8_notch 5 = .ok (.aload_n 0, 1) := by decide +kernel
theorem dX8_notch_6 : decode cX8_notch 6 = .ok (.iload_n 1, 1) := by decide +kernel
theorem dX8_notch_7 : decode cX8_notch 7 = .ok (.invokevirtual 226, 3) := by decide +kernel
theorem dX8_notch_10 : decode cX8_notch 10 = .ok (.ifCond .eq 27, 3) := by decide +kernel
theorem dX8_notch_13 : decode cX8_notch 13 = .ok (.iload_n 2, 1) := by decide +kernel
theorem dX8_notch_14 : decode cX8_notch 14 = .ok (.iconst 0, 1) := by decide +kernel
theorem dX8_notch_15 : decode cX8_notch 15 = .ok (.iconst 1, 1) := by decide +kernel
theorem dX8_notch_16 : decode cX8_notch 16 = .ok (.invokestatic 105, 3) := by decide +kernel
theorem dX8_notch_19 : decode cX8_notch 19 = .ok (.ifCond .eq 18, 3) := by decide +kernel
theorem dX8_notch_22 : decode cX8_notch 22 = .ok (.aload_n 0, 1) := by decide +kernel
theorem dX8_notch_23 : decode cX8_notch 23 = .ok (.getfield 38, 3) := by decide +kernel
theorem dX8_notch_26 : decode cX8_notch 26 = .ok (.iconst 1, 1) := by decide +kernel
theorem dX8_notch_27 : decode cX8_notch 27 = .ok (.iconst 2, 1) := by decide +kernel
theorem dX8_notch_28 : decode cX8_notch 28 = .ok (.iload_n 1, 1) := by decide +kernel
theorem dX8_notch_29 : decode cX8_notch 29 = .ok (.imul, 1) := by decide +kernel
theorem dX8_notch_30 : decode cX8_notch 30 = .ok (.iadd, 1) := by decide +kernel
theorem dX8_notch_31 : decode cX8_notch 31 = .ok (.iload_n 2, 1) := by decide +kernel
theorem dX8_notch_32 : decode cX8_notch 32 = .ok (.iadd, 1) := by decide +kernel
theorem dX8_notch_33 : decode cX8_notch 33 = .ok (.iaload, 1) := by decide +kernel
theorem dX8_notch_34 : decode cX8_notch 34 = .ok (.goto 4, 3) := by decide +kernel
theorem dX8_notch_37 : decode cX8_notch 37 = .ok (.iconst (-1), 1) := by decide +kernel
theorem dX8_notch_38 : decode cX8_notch 38 = .ok (.ireturn, 1) := by decide +kernel
set_option maxRecDepth 20000 in
theorem ggX8_clouds_X8_isThere : GoodIn wsX8_clouds wsX8_isThere := goodIn_r _ [10, 11, 12, 13, 9, 14, 18, 19, 20, 21, 22, 23, 24, 25, 26, 27, 28, 29, 30, 31, 32, 33, 34, 35, 36, 37, 38, 39, 40, 41, 42, 43, 44, 45, 46, 47, 48, 49, 50, 51, 52, 53, 54, 55, 56, 57, 58, 59, 60, 61] (by decide +kernel) (by decide +kernel)
set_option maxRecDepth 20000 in
theorem gX8_clouds_X8_isThere : GoodIn wsX8_clouds (wsV RX8 200 RX8 yX8_isThere wsX8_isThere) := goodIn_app (goodIn_of _ (by decide +kernel)) ggX8_clouds_X8_isThere
set_option maxRecDepth 20000 in
theorem ggX8_clouds_X8_isLook : GoodIn wsX8_clouds wsX8_isLook := goodIn_r _ [17, 12, 13, 9, 14] (by decide +kernel) (by decide +kernel)
set_option maxRecDepth 20000 in
theorem gX8_clouds_X8_isLook : GoodIn wsX8_clouds (va_wsS RX8 223 yX8_isLook wsX8_isLook) := goodIn_app (goodIn_of _ (by decide +kernel)) ggX8_clouds_X8_isLook
set_option maxRecDepth 20000 in
theorem ggX8_clouds_X8_in : GoodIn wsX8_clouds wsX8_in := goodIn_r _ [14] (by decide +kernel) (by decide +kernel)
set_option maxRecDepth 20000 in
theorem gX8_clouds_X8_in : GoodIn wsX8_clouds (va_wsS RX8 105 yX8_in wsX8_in) := goodIn_app (goodIn_of _ (by decide +kernel)) ggX8_clouds_X8_in
theorem dX8_clouds_0 : decode cX8_clouds 0 = .ok (.aload_n 0, 1) := by decide +kernel
theorem dX8_clouds_1 : decode cX8_clouds 1 = .ok (.iconst 0, 1) := by decide +kernel
theorem dX8_clouds_2 : decode cX8_clouds 2 = .ok (.putfield 98, 3) := by decide +kernel
theorem dX8_clouds_5 : decode cX8_clouds 5 = .ok (.aload_n 0, 1) := by decide +kernel
theorem dX8_clouds_6 : decode cX8_clouds 6 = .ok (.iload_n 1, 1) := by decide +kernel
theorem dX8_clouds_7 : decode cX8_clouds 7 = .ok (.iload_n 2, 1) := by decide +kernel
theorem dX8_clouds_8 : decode cX8_clouds 8 = .ok (.invokevirtual 200, 3) := by decide +kernel
theorem dX8_clouds_11 : decode cX8_clouds 11 = .ok (.ifCond .eq 20, 3) := by decide +kernel
theorem dX8_clouds_14 : decode cX8_clouds 14 = .ok (.iload_n 3, 1) := by decide +kernel
theorem dX8_clouds_15 : decode cX8_clouds 15 = .ok (.invokestatic 223, 3) := by decide +kernel
theorem dX8_clouds_18 : decode cX8_clouds 18 = .ok (.ifCond .eq 13, 3) := by decide +kernel
theorem dX8_clouds_21 : decode cX8_clouds 21 = .ok (.iload 4, 2) := by decide +kernel
theorem dX8_clouds_23 : decode cX8_clouds 23 = .ok (.iconst 0, 1) := by decide +kernel
theorem dX8_clouds_24 : decode cX8_clouds 24 = .ok (.iconst 1, 1) := by decide +kernel
theorem dX8_clouds_25 : decode cX8_clouds 25 = .ok (.invokestatic 105, 3) := by decide +kernel
theorem dX8_clouds_28 : decode cX8_clouds 28 = .ok (.ifCond .ne 5, 3) := by decide +kernel
theorem dX8_clouds_31 : decode cX8_clouds 31 = .ok (.iconst (-1), 1) := by decide +kernel
theorem dX8_clouds_32 : decode cX8_clouds 32 = .ok (.ireturn, 1) := by decide +kernel
theorem dX8_clouds_33 : decode cX8_clouds 33 = .ok (.aload_n 0, 1) := by decide +kernel
theorem dX8_clouds_34 : decode cX8_clouds 34 = .ok (.getfield 160, 3) := by decide +kernel
theorem dX8_clouds_37 : decode cX8_clouds 37 = .ok (.bipush 6, 2) := by decide +kernel
theorem dX8_clouds_39 : decode cX8_clouds 39 = .ok (.if_icmp .ne 6, 3) := by decide +kernel
theorem dX8_clouds_42 : decode cX8_clouds 42 = .ok (.bipush (-3), 2) := by decide +kernel
theorem dX8_clouds_44 : decode cX8_clouds 44 = .ok (.ireturn, 1) := by decide +kernel
theorem dX8_clouds_45 : decode cX8_clouds 45 = .ok (.aload_n 0, 1) := by decide +kernel
theorem dX8_clouds_46 : decode cX8_clouds 46 = .ok (.getfield 50, 3) := by decide +kernel
theorem dX8_clouds_49 : decode cX8_clouds 49 = .ok (.aload_n 0, 1) := by decide +kernel
theorem dX8_clouds_50 : decode cX8_clouds 50 = .ok (.getfield 160, 3) := by decide +kernel
theorem dX8_clouds_53 : decode cX8_clouds 53 = .ok (.bipush 8, 2) := by decide +kernel
theorem dX8_clouds_55 : decode cX8_clouds 55 = .ok (.iload_n 1, 1) := by decide +kernel
theorem dX8_clouds_56 : decode cX8_clouds 56 = .ok (.imul, 1) := by decide +kernel
theorem dX8_clouds_57 : decode cX8_clouds 57 = .ok (.iload_n 2, 1) := by decide +kernel
theorem dX8_clouds_58 : decode cX8_clouds 58 = .ok (.iadd, 1) := by decide +kernel
theorem dX8_clouds_59 : decode cX8_clouds 59 = .ok (.iastore, 1) := by decide +kernel
theorem dX8_clouds_60 : decode cX8_clouds 60 = .ok (.aload_n 0, 1) := by decide +kernel
theorem dX8_clouds_61 : decode cX8_clouds 61 = .ok (.getfield 53, 3) := by decide +kernel
theorem dX8_clouds_64 : decode cX8_clouds 64 = .ok (.aload_n 0, 1) := by decide +kernel
theorem dX8_clouds_65 : decode cX8_clouds 65 = .ok (.getfield 160, 3) := by decide +kernel
theorem dX8_clouds_68 : decode cX8_clouds 68 = .ok (.iload_n 3, 1) := by decide +kernel
theorem dX8_clouds_69 : decode cX8_clouds 69 = .ok (.iastore, 1) := by decide +kernel
theorem dX8_clouds_70 : decode cX8_clouds 70 = .ok (.aload_n 0, 1) := by decide +kernel
theorem dX8_clouds_71 : decode cX8_clouds 71 = .ok (.getfield 56, 3) := by decide +kernel
theorem dX8_clouds_74 : decode cX8_clouds 74 = .ok (.aload_n 0, 1) := by decide +kernel
theorem dX8_clouds_75 : decode cX8_clouds 75 = .ok (.getfield 160, 3) := by decide +kernel
theorem dX8_clouds_78 : decode cX8_clouds 78 = .ok (.iload 4, 2) := by decide +kernel
theorem dX8_clouds_80 : decode cX8_clouds 80 = .ok (.iastore, 1) := by decide +kernel
theorem dX8_clouds_81 : decode cX8_clouds 81 = .ok (.aload_n 0, 1) := by decide +kernel
theorem dX8_clouds_82 : decode cX8_clouds 82 = .ok (.dup, 1) := by decide +kernel
theorem dX8_clouds_83 : decode cX8_clouds 83 = .ok (.getfield 160, 3) := by decide +kernel
theorem dX8_clouds_86 : decode cX8_clouds 86 = .ok (.iconst 1, 1) := by decide +kernel
theorem dX8_clouds_87 : decode cX8_clouds 87 = .ok (.iadd, 1) := by decide +kernel
theorem dX8_clouds_88 : decode cX8_clouds 88 = .ok (.putfield 160, 3) := by decide +kernel
theorem dX8_clouds_91 : decode cX8_clouds 91 = .ok (.aload_n 0, 1) := by decide +kernel
theorem dX8_clouds_92 : decode cX8_clouds 92 = .ok (.getfield 160, 3) := by decide +kernel
theorem dX8_clouds_95 : decode cX8_clouds 95 = .ok (.ireturn, 1) := by decide +kernel
theorem dX8_forget_0 : decode cX8_forget 0 = .ok (.aload_n 0, 1) := by decide +kernel
theorem dX8_forget_1 : decode cX8_forget 1 = .ok (.iconst 0, 1) := by decide +kernel
theorem dX8_forget_2 : decode cX8_forget 2 = .ok (.putfield 98, 3) := by decide +kernel
theorem dX8_forget_5 : decode cX8_forget 5 = .ok (.aload_n 0, 1) := by decide +kernel
theorem dX8_forget_6 : decode cX8_forget 6 = .ok (.getfield 160, 3) := by decide +kernel
theorem dX8_forget_9 : decode cX8_forget 9 = .ok (.istore_n 1, 1) := by decide +kernel
theorem dX8_forget_10 : decode cX8_forget 10 = .ok (.aload_n 0, 1) := by decide +kernel
theorem dX8_forget_11 : decode cX8_forget 11 = .ok (.iconst 0, 1) := by decide +kernel
theorem dX8_forget_12 : decode cX8_forget 12 = .ok (.putfield 160, 3) := by decide +kernel
theorem dX8_forget_15 : decode cX8_forget 15 = .ok (.iload_n 1, 1) := by decide +kernel
theorem dX8_forget_16 : decode cX8_forget 16 = .ok (.ireturn, 1) := by decide +kernel
set_option maxRecDepth 20000 in
theorem ggX8_unseen_X8_scoreOf : GoodIn wsX8_unseen wsX8_scoreOf := goodIn_r _ [12, 6, 13, 2, 14, 15, 16, 17, 18, 19, 11, 20, 21, 22, 23, 24, 25, 26, 27, 28, 29, 30, 31, 32, 33, 34, 35, 36, 37, 38, 39, 40, 41, 42, 43, 44, 45, 46, 47, 48, 49, 50, 51, 52, 53, 54, 55, 56, 57, 58, 59, 60, 61, 62, 63, 64, 65, 66, 67, 68, 69, 70, 71, 72, 73, 74, 75, 76, 77, 78, 79, 80] (by decide +kernel) (by decide +kernel)
set_option maxRecDepth 20000 in
theorem gX8_unseen_X8_scoreOf : GoodIn wsX8_unseen (wsV RX8 229 RX8 yX8_scoreOf wsX8_scoreOf) := goodIn_app (goodIn_of _ (by decide +kernel)) ggX8_unseen_X8_scoreOf
theorem dX8_unseen_0 : decode cX8_unseen 0 = .ok (.aload_n 0, 1) := by decide +kernel
theorem dX8_unseen_1 : decode cX8_unseen 1 = .ok (.iconst 0, 1) := by decide +kernel
theorem dX8_unseen_2 : decode cX8_unseen 2 = .ok (.putfield 98, 3) := by decide +kernel
theorem dX8_unseen_5 : decode cX8_unseen 5 = .ok (.iconst 0, 1) := by decide +kernel
theorem dX8_unseen_6 : decode cX8_unseen 6 = .ok (.istore_n 1, 1) := by decide +kernel
theorem dX8_unseen_7 : decode cX8_unseen 7 = .ok (.iconst 0, 1) := by decide +kernel
theorem dX8_unseen_8 : decode cX8_unseen 8 = .ok (.istore_n 2, 1) := by decide +kernel
theorem dX8_unseen_9 : decode cX8_unseen 9 = .ok (.iload_n 2, 1) := by decide +kernel
theorem dX8_unseen_10 : decode cX8_unseen 10 = .ok (.aload_n 0, 1) := by decide +kernel
theorem dX8_unseen_11 : decode cX8_unseen 11 = .ok (.getfield 102, 3) := by decide +kernel
theorem dX8_unseen_14 : decode cX8_unseen 14 = .ok (.if_icmp .ge 107, 3) := by decide +kernel
theorem dX8_unseen_17 : decode cX8_unseen 17 = .ok (.iconst 1, 1) := by decide +kernel
theorem dX8_unseen_18 : decode cX8_unseen 18 = .ok (.istore_n 3, 1) := by decide +kernel
theorem dX8_unseen_19 : decode cX8_unseen 19 = .ok (.iconst 0, 1) := by decide +kernel
theorem dX8_unseen_20 : decode cX8_unseen 20 = .ok (.istore 4, 2) := by decide +kernel
theorem dX8_unseen_22 : decode cX8_unseen 22 = .ok (.iload 4, 2) := by decide +kernel
theorem dX8_unseen_24 : decode cX8_unseen 24 = .ok (.aload_n 0, 1) := by decide +kernel
theorem dX8_unseen_25 : decode cX8_unseen 25 = .ok (.getfield 160, 3) := by decide +kernel
theorem dX8_unseen_28 : decode cX8_unseen 28 = .ok (.if_icmp .ge 73, 3) := by decide +kernel
theorem dX8_unseen_31 : decode cX8_unseen 31 = .ok (.iload_n 3, 1) := by decide +kernel
theorem dX8_unseen_32 : decode cX8_unseen 32 = .ok (.ifCond .eq 69, 3) := by decide +kernel
theorem dX8_unseen_35 : decode cX8_unseen 35 = .ok (.aload_n 0, 1) := by decide +kernel
theorem dX8_unseen_36 : decode cX8_unseen 36 = .ok (.aload_n 0, 1) := by decide +kernel
theorem dX8_unseen_37 : decode cX8_unseen 37 = .ok (.getfield 50, 3) := by decide +kernel
theorem dX8_unseen_40 : decode cX8_unseen 40 = .ok (.iload 4, 2) := by decide +kernel
theorem dX8_unseen_42 : decode cX8_unseen 42 = .ok (.iaload, 1) := by decide +kernel
theorem dX8_unseen_43 : decode cX8_unseen 43 = .ok (.aload_n 0, 1) := by decide +kernel
theorem dX8_unseen_44 : decode cX8_unseen 44 = .ok (.getfield 53, 3) := by decide +kernel
theorem dX8_unseen_47 : decode cX8_unseen 47 = .ok (.iload 4, 2) := by decide +kernel
theorem dX8_unseen_49 : decode cX8_unseen 49 = .ok (.iaload, 1) := by decide +kernel
theorem dX8_unseen_50 : decode cX8_unseen 50 = .ok (.bipush (-9), 2) := by decide +kernel
theorem dX8_unseen_52 : decode cX8_unseen 52 = .ok (.iload_n 2, 1) := by decide +kernel
theorem dX8_unseen_53 : decode cX8_unseen 53 = .ok (.invokevirtual 229, 3) := by decide +kernel
theorem dX8_unseen_56 : decode cX8_unseen 56 = .ok (.aload_n 0, 1) := by decide +kernel
theorem dX8_unseen_57 : decode cX8_unseen 57 = .ok (.getfield 38, 3) := by decide +kernel
theorem dX8_unseen_60 : decode cX8_unseen 60 = .ok (.iconst 0, 1) := by decide +kernel
theorem dX8_unseen_61 : decode cX8_unseen 61 = .ok (.iaload, 1) := by decide +kernel
theorem dX8_unseen_62 : decode cX8_unseen 62 = .ok (.if_icmp .ne 7, 3) := by decide +kernel
theorem dX8_unseen_65 : decode cX8_unseen 65 = .ok (.iconst 1, 1) := by decide +kernel
theorem dX8_unseen_66 : decode cX8_unseen 66 = .ok (.goto 4, 3) := by decide +kernel
theorem dX8_unseen_69 : decode cX8_unseen 69 = .ok (.iconst 0, 1) := by decide +kernel
theorem dX8_unseen_70 : decode cX8_unseen 70 = .ok (.aload_n 0, 1) := by decide +kernel
theorem dX8_unseen_71 : decode cX8_unseen 71 = .ok (.getfield 56, 3) := by decide +kernel
theorem dX8_unseen_74 : decode cX8_unseen 74 = .ok (.iload 4, 2) := by decide +kernel
theorem dX8_unseen_76 : decode cX8_unseen 76 = .ok (.iaload, 1) := by decide +kernel
theorem dX8_unseen_77 : decode cX8_unseen 77 = .ok (.iconst 1, 1) := by decide +kernel
theorem dX8_unseen_78 : decode cX8_unseen 78 = .ok (.if_icmp .ne 7, 3) := by decide +kernel
theorem dX8_unseen_81 : decode cX8_unseen 81 = .ok (.iconst 1, 1) := by decide +kernel
theorem dX8_unseen_82 : decode cX8_unseen 82 = .ok (.goto 4, 3) := by decide +kernel
theorem dX8_unseen_85 : decode cX8_unseen 85 = .ok (.iconst 0, 1) := by decide +kernel
theorem dX8_unseen_86 : decode cX8_unseen 86 = .ok (.if_icmp .ne 7, 3) := by decide +kernel
theorem dX8_unseen_89 : decode cX8_unseen 89 = .ok (.iconst 1, 1) := by decide +kernel
theorem dX8_unseen_90 : decode cX8_unseen 90 = .ok (.goto 4, 3) := by decide +kernel
theorem dX8_unseen_93 : decode cX8_unseen 93 = .ok (.iconst 0, 1) := by decide +kernel
theorem dX8_unseen_94 : decode cX8_unseen 94 = .ok (.istore_n 3, 1) := by decide +kernel
theorem dX8_unseen_95 : decode cX8_unseen 95 = .ok (.iinc 4 1, 3) := by decide +kernel
theorem dX8_unseen_98 : decode cX8_unseen 98 = .ok (.goto (-76), 3) := by decide +kernel
theorem dX8_unseen_101 : decode cX8_unseen 101 = .ok (.iload_n 1, 1) := by decide +kernel
theorem dX8_unseen_102 : decode cX8_unseen 102 = .ok (.iload_n 3, 1) := by decide +kernel
theorem dX8_unseen_103 : decode cX8_unseen 103 = .ok (.ifCond .eq 9, 3) := by decide +kernel
theorem dX8_unseen_106 : decode cX8_unseen 106 = .ok (.iconst 1, 1) := by decide +kernel
theorem dX8_unseen_107 : decode cX8_unseen 107 = .ok (.iload_n 2, 1) := by decide +kernel
theorem dX8_unseen_108 : decode cX8_unseen 108 = .ok (.ishl, 1) := by decide +kernel
theorem dX8_unseen_109 : decode cX8_unseen 109 = .ok (.goto 4, 3) := by decide +kernel
theorem dX8_unseen_112 : decode cX8_unseen 112 = .ok (.iconst 0, 1) := by decide +kernel
theorem dX8_unseen_113 : decode cX8_unseen 113 = .ok (.ior, 1) := by decide +kernel
theorem dX8_unseen_114 : decode cX8_unseen 114 = .ok (.istore_n 1, 1) := by decide +kernel
theorem dX8_unseen_115 : decode cX8_unseen 115 = .ok (.iinc 2 1, 3) := by decide +kernel
theorem dX8_unseen_118 : decode cX8_unseen 118 = .ok (.goto (-109), 3) := by decide +kernel
theorem dX8_unseen_121 : decode cX8_unseen 121 = .ok (.iload_n 1, 1) := by decide +kernel
theorem dX8_unseen_122 : decode cX8_unseen 122 = .ok (.ireturn, 1) := by decide +kernel
set_option maxRecDepth 20000 in
theorem ggX8_keep_X8_in : GoodIn wsX8_keep wsX8_in := goodIn_r _ [8] (by decide +kernel) (by decide +kernel)
set_option maxRecDepth 20000 in
theorem gX8_keep_X8_in : GoodIn wsX8_keep (va_wsS RX8 105 yX8_in wsX8_in) := goodIn_app (goodIn_of _ (by decide +kernel)) ggX8_keep_X8_in
theorem dX8_keep_0 : decode cX8_keep 0 = .ok (.aload_n 0, 1) := by decide +kernel
theorem dX8_keep_1 : decode cX8_keep 1 = .ok (.iconst 0, 1) := by decide +kernel
theorem dX8_keep_2 : decode cX8_keep 2 = .ok (.putfield 98, 3) := by decide +kernel
theorem dX8_keep_5 : decode cX8_keep 5 = .ok (.iload_n 1, 1) := by decide +kernel
theorem dX8_keep_6 : decode cX8_keep 6 = .ok (.iconst 0, 1) := by decide +kernel
theorem dX8_keep_7 : decode cX8_keep 7 = .ok (.iconst 1, 1) := by decide +kernel
theorem dX8_keep_8 : decode cX8_keep 8 = .ok (.invokestatic 105, 3) := by decide +kernel
theorem dX8_keep_11 : decode cX8_keep 11 = .ok (.ifCond .ne 5, 3) := by decide +kernel
theorem dX8_keep_14 : decode cX8_keep 14 = .ok (.iconst (-1), 1) := by decide +kernel
theorem dX8_keep_15 : decode cX8_keep 15 = .ok (.ireturn, 1) := by decide +kernel
theorem dX8_keep_16 : decode cX8_keep 16 = .ok (.iconst 0, 1) := by decide +kernel
theorem dX8_keep_17 : decode cX8_keep 17 = .ok (.istore_n 2, 1) := by decide +kernel
theorem dX8_keep_18 : decode cX8_keep 18 = .ok (.iload_n 2, 1) := by decide +kernel
theorem dX8_keep_19 : decode cX8_keep 19 = .ok (.bipush 17, 2) := by decide +kernel
theorem dX8_keep_21 : decode cX8_keep 21 = .ok (.if_icmp .ge 26, 3) := by decide +kernel
theorem dX8_keep_24 : decode cX8_keep 24 = .ok (.aload_n 0, 1) := by decide +kernel
theorem dX8_keep_25 : decode cX8_keep 25 = .ok (.getfield 44, 3) := by decide +kernel
theorem dX8_keep_28 : decode cX8_keep 28 = .ok (.bipush 17, 2) := by decide +kernel
theorem dX8_keep_30 : decode cX8_keep 30 = .ok (.iload_n 1, 1) := by decide +kernel
theorem dX8_keep_31 : decode cX8_keep 31 = .ok (.imul, 1) := by decide +kernel
theorem dX8_keep_32 : decode cX8_keep 32 = .ok (.iload_n 2, 1) := by decide +kernel
theorem dX8_keep_33 : decode cX8_keep 33 = .ok (.iadd, 1) := by decide +kernel
theorem dX8_keep_34 : decode cX8_keep 34 = .ok (.aload_n 0, 1) := by decide +kernel
theorem dX8_keep_35 : decode cX8_keep 35 = .ok (.getfield 38, 3) := by decide +kernel
theorem dX8_keep_38 : decode cX8_keep 38 = .ok (.iload_n 2, 1) := by decide +kernel
theorem dX8_keep_39 : decode cX8_keep 39 = .ok (.iaload, 1) := by decide +kernel
theorem dX8_keep_40 : decode cX8_keep 40 = .ok (.iastore, 1) := by decide +kernel
theorem dX8_keep_41 : decode cX8_keep 41 = .ok (.iinc 2 1, 3) := by decide +kernel
theorem dX8_keep_44 : decode cX8_keep 44 = .ok (.goto (-26), 3) := by decide +kernel
theorem dX8_keep_47 : decode cX8_keep 47 = .ok (.aload_n 0, 1) := by decide +kernel
theorem dX8_keep_48 : decode cX8_keep 48 = .ok (.getfield 47, 3) := by decide +kernel
theorem dX8_keep_51 : decode cX8_keep 51 = .ok (.iload_n 1, 1) := by decide +kernel
theorem dX8_keep_52 : decode cX8_keep 52 = .ok (.iconst 1, 1) := by decide +kernel
theorem dX8_keep_53 : decode cX8_keep 53 = .ok (.bastore, 1) := by decide +kernel
theorem dX8_keep_54 : decode cX8_keep 54 = .ok (.aload_n 0, 1) := by decide +kernel
theorem dX8_keep_55 : decode cX8_keep 55 = .ok (.getfield 38, 3) := by decide +kernel
theorem dX8_keep_58 : decode cX8_keep 58 = .ok (.iconst 0, 1) := by decide +kernel
theorem dX8_keep_59 : decode cX8_keep 59 = .ok (.iaload, 1) := by decide +kernel
theorem dX8_keep_60 : decode cX8_keep 60 = .ok (.ireturn, 1) := by decide +kernel
set_option maxRecDepth 20000 in
theorem ggX8_back_X8_in : GoodIn wsX8_back wsX8_in := goodIn_r _ [9] (by decide +kernel) (by decide +kernel)
set_option maxRecDepth 20000 in
theorem gX8_back_X8_in : GoodIn wsX8_back (va_wsS RX8 105 yX8_in wsX8_in) := goodIn_app (goodIn_of _ (by decide +kernel)) ggX8_back_X8_in
theorem dX8_back_0 : decode cX8_back 0 = .ok (.aload_n 0, 1) := by decide +kernel
theorem dX8_back_1 : decode cX8_back 1 = .ok (.iconst 0, 1) := by decide +kernel
theorem dX8_back_2 : decode cX8_back 2 = .ok (.putfield 98, 3) := by decide +kernel
theorem dX8_back_5 : decode cX8_back 5 = .ok (.iload_n 1, 1) := by decide +kernel
theorem dX8_back_6 : decode cX8_back 6 = .ok (.iconst 0, 1) := by decide +kernel
theorem dX8_back_7 : decode cX8_back 7 = .ok (.iconst 1, 1) := by decide +kernel
theorem dX8_back_8 : decode cX8_back 8 = .ok (.invokestatic 105, 3) := by decide +kernel
theorem dX8_back_11 : decode cX8_back 11 = .ok (.ifCond .ne 5, 3) := by decide +kernel
theorem dX8_back_14 : decode cX8_back 14 = .ok (.iconst (-1), 1) := by decide +kernel
theorem dX8_back_15 : decode cX8_back 15 = .ok (.ireturn, 1) := by decide +kernel
theorem dX8_back_16 : decode cX8_back 16 = .ok (.aload_n 0, 1) := by decide +kernel
theorem dX8_back_17 : decode cX8_back 17 = .ok (.getfield 47, 3) := by decide +kernel
theorem dX8_back_20 : decode cX8_back 20 = .ok (.iload_n 1, 1) := by decide +kernel
theorem dX8_back_21 : decode cX8_back 21 = .ok (.baload, 1) := by decide +kernel
theorem dX8_back_22 : decode cX8_back 22 = .ok (.ifCond .ne 6, 3) := by decide +kernel
theorem dX8_back_25 : decode cX8_back 25 = .ok (.bipush (-2), 2) := by decide +kernel
theorem dX8_back_27 : decode cX8_back 27 = .ok (.ireturn, 1) := by decide +kernel
theorem dX8_back_28 : decode cX8_back 28 = .ok (.iconst 0, 1) := by decide +kernel
theorem dX8_back_29 : decode cX8_back 29 = .ok (.istore_n 2, 1) := by decide +kernel
theorem dX8_back_30 : decode cX8_back 30 = .ok (.iload_n 2, 1) := by decide +kernel
theorem dX8_back_31 : decode cX8_back 31 = .ok (.bipush 17, 2) := by decide +kernel
theorem dX8_back_33 : decode cX8_back 33 = .ok (.if_icmp .ge 26, 3) := by decide +kernel
theorem dX8_back_36 : decode cX8_back 36 = .ok (.aload_n 0, 1) := by decide +kernel
theorem dX8_back_37 : decode cX8_back 37 = .ok (.getfield 38, 3) := by decide +kernel
theorem dX8_back_40 : decode cX8_back 40 = .ok (.iload_n 2, 1) := by decide +kernel
theorem dX8_back_41 : decode cX8_back 41 = .ok (.aload_n 0, 1) := by decide +kernel
theorem dX8_back_42 : decode cX8_back 42 = .ok (.getfield 44, 3) := by decide +kernel
theorem dX8_back_45 : decode cX8_back 45 = .ok (.bipush 17, 2) := by decide +kernel
theorem dX8_back_47 : decode cX8_back 47 = .ok (.iload_n 1, 1) := by decide +kernel
theorem dX8_back_48 : decode cX8_back 48 = .ok (.imul, 1) := by decide +kernel
theorem dX8_back_49 : decode cX8_back 49 = .ok (.iload_n 2, 1) := by decide +kernel
theorem dX8_back_50 : decode cX8_back 50 = .ok (.iadd, 1) := by decide +kernel
theorem dX8_back_51 : decode cX8_back 51 = .ok (.iaload, 1) := by decide +kernel
theorem dX8_back_52 : decode cX8_back 52 = .ok (.iastore, 1) := by decide +kernel
theorem dX8_back_53 : decode cX8_back 53 = .ok (.iinc 2 1, 3) := by decide +kernel
theorem dX8_back_56 : decode cX8_back 56 = .ok (.goto (-26), 3) := by decide +kernel
theorem dX8_back_59 : decode cX8_back 59 = .ok (.aload_n 0, 1) := by decide +kernel
theorem dX8_back_60 : decode cX8_back 60 = .ok (.iconst 0, 1) := by decide +kernel
theorem dX8_back_61 : decode cX8_back 61 = .ok (.putfield 157, 3) := by decide +kernel
theorem dX8_back_64 : decode cX8_back 64 = .ok (.aload_n 0, 1) := by decide +kernel
theorem dX8_back_65 : decode cX8_back 65 = .ok (.getfield 38, 3) := by decide +kernel
theorem dX8_back_68 : decode cX8_back 68 = .ok (.iconst 0, 1) := by decide +kernel
theorem dX8_back_69 : decode cX8_back 69 = .ok (.iaload, 1) := by decide +kernel
theorem dX8_back_70 : decode cX8_back 70 = .ok (.ireturn, 1) := by decide +kernel
theorem dX8_count_0 : decode cX8_count 0 = .ok (.aload_n 0, 1) := by decide +kernel
theorem dX8_count_1 : decode cX8_count 1 = .ok (.iconst 0, 1) := by decide +kernel
theorem dX8_count_2 : decode cX8_count 2 = .ok (.putfield 98, 3) := by decide +kernel
theorem dX8_count_5 : decode cX8_count 5 = .ok (.iload_n 1, 1) := by decide +kernel
theorem dX8_count_6 : decode cX8_count 6 = .ok (.tableswitch 79 0 6 #[42, 47, 52, 57, 64, 69, 74], 42) := by decide +kernel
theorem dX8_count_48 : decode cX8_count 48 = .ok (.aload_n 0, 1) := by decide +kernel
theorem dX8_count_49 : decode cX8_count 49 = .ok (.getfield 102, 3) := by decide +kernel
theorem dX8_count_52 : decode cX8_count 52 = .ok (.ireturn, 1) := by decide +kernel
theorem dX8_count_53 : decode cX8_count 53 = .ok (.aload_n 0, 1) := by decide +kernel
theorem dX8_count_54 : decode cX8_count 54 = .ok (.getfield 151, 3) := by decide +kernel
theorem dX8_count_57 : decode cX8_count 57 = .ok (.ireturn, 1) := by decide +kernel
theorem dX8_count_58 : decode cX8_count 58 = .ok (.aload_n 0, 1) := by decide +kernel
theorem dX8_count_59 : decode cX8_count 59 = .ok (.getfield 154, 3) := by decide +kernel
theorem dX8_count_62 : decode cX8_count 62 = .ok (.ireturn, 1) := by decide +kernel
theorem dX8_count_63 : decode cX8_count 63 = .ok (.aload_n 0, 1) := by decide +kernel
theorem dX8_count_64 : decode cX8_count 64 = .ok (.getfield 38, 3) := by decide +kernel
theorem dX8_count_67 : decode cX8_count 67 = .ok (.iconst 0, 1) := by decide +kernel
theorem dX8_count_68 : decode cX8_count 68 = .ok (.iaload, 1) := by decide +kernel
theorem dX8_count_69 : decode cX8_count 69 = .ok (.ireturn, 1) := by decide +kernel
theorem dX8_count_70 : decode cX8_count 70 = .ok (.aload_n 0, 1) := by decide +kernel
theorem dX8_count_71 : decode cX8_count 71 = .ok (.getfield 160, 3) := by decide +kernel
theorem dX8_count_74 : decode cX8_count 74 = .ok (.ireturn, 1) := by decide +kernel
theorem dX8_count_75 : decode cX8_count 75 = .ok (.aload_n 0, 1) := by decide +kernel
theorem dX8_count_76 : decode cX8_count 76 = .ok (.getfield 109, 3) := by decide +kernel
theorem dX8_count_79 : decode cX8_count 79 = .ok (.ireturn, 1) := by decide +kernel
theorem dX8_count_80 : decode cX8_count 80 = .ok (.aload_n 0, 1) := by decide +kernel
theorem dX8_count_81 : decode cX8_count 81 = .ok (.getfield 157, 3) := by decide +kernel
theorem dX8_count_84 : decode cX8_count 84 = .ok (.ireturn, 1) := by decide +kernel
theorem dX8_count_85 : decode cX8_count 85 = .ok (.iconst (-1), 1) := by decide +kernel
theorem dX8_count_86 : decode cX8_count 86 = .ok (.ireturn, 1) := by decide +kernel
theorem dJ9_floorDiv_7cf53_0 : decode cJ9_floorDiv_7cf53 0 = .ok (.iload_n 0, 1) := by decide +kernel
theorem dJ9_floorDiv_7cf53_1 : decode cJ9_floorDiv_7cf53 1 = .ok (.iload_n 1, 1) := by decide +kernel
theorem dJ9_floorDiv_7cf53_2 : decode cJ9_floorDiv_7cf53 2 = .ok (.idiv, 1) := by decide +kernel
theorem dJ9_floorDiv_7cf53_3 : decode cJ9_floorDiv_7cf53 3 = .ok (.istore_n 2, 1) := by decide +kernel
theorem dJ9_floorDiv_7cf53_4 : decode cJ9_floorDiv_7cf53 4 = .ok (.iload_n 0, 1) := by decide +kernel
theorem dJ9_floorDiv_7cf53_5 : decode cJ9_floorDiv_7cf53 5 = .ok (.iload_n 1, 1) := by decide +kernel
theorem dJ9_floorDiv_7cf53_6 : decode cJ9_floorDiv_7cf53 6 = .ok (.ixor, 1) := by decide +kernel
theorem dJ9_floorDiv_7cf53_7 : decode cJ9_floorDiv_7cf53 7 = .ok (.ifCond .ge 14, 3) := by decide +kernel
theorem dJ9_floorDiv_7cf53_10 : decode cJ9_floorDiv_7cf53 10 = .ok (.iload_n 2, 1) := by decide +kernel
theorem dJ9_floorDiv_7cf53_11 : decode cJ9_floorDiv_7cf53 11 = .ok (.iload_n 1, 1) := by decide +kernel
theorem dJ9_floorDiv_7cf53_12 : decode cJ9_floorDiv_7cf53 12 = .ok (.imul, 1) := by decide +kernel
theorem dJ9_floorDiv_7cf53_13 : decode cJ9_floorDiv_7cf53 13 = .ok (.iload_n 0, 1) := by decide +kernel
theorem dJ9_floorDiv_7cf53_14 : decode cJ9_floorDiv_7cf53 14 = .ok (.if_icmp .eq 7, 3) := by decide +kernel
theorem dJ9_floorDiv_7cf53_17 : decode cJ9_floorDiv_7cf53 17 = .ok (.iload_n 2, 1) := by decide +kernel
theorem dJ9_floorDiv_7cf53_18 : decode cJ9_floorDiv_7cf53 18 = .ok (.iconst 1, 1) := by decide +kernel
theorem dJ9_floorDiv_7cf53_19 : decode cJ9_floorDiv_7cf53 19 = .ok (.isub, 1) := by decide +kernel
theorem dJ9_floorDiv_7cf53_20 : decode cJ9_floorDiv_7cf53 20 = .ok (.ireturn, 1) := by decide +kernel
theorem dJ9_floorDiv_7cf53_21 : decode cJ9_floorDiv_7cf53 21 = .ok (.iload_n 2, 1) := by decide +kernel
theorem dJ9_floorDiv_7cf53_22 : decode cJ9_floorDiv_7cf53 22 = .ok (.ireturn, 1) := by decide +kernel
theorem dJ9_floorMod_7cf53_0 : decode cJ9_floorMod_7cf53 0 = .ok (.iload_n 0, 1) := by decide +kernel
theorem dJ9_floorMod_7cf53_1 : decode cJ9_floorMod_7cf53 1 = .ok (.iload_n 1, 1) := by decide +kernel
theorem dJ9_floorMod_7cf53_2 : decode cJ9_floorMod_7cf53 2 = .ok (.irem, 1) := by decide +kernel
theorem dJ9_floorMod_7cf53_3 : decode cJ9_floorMod_7cf53 3 = .ok (.istore_n 2, 1) := by decide +kernel
theorem dJ9_floorMod_7cf53_4 : decode cJ9_floorMod_7cf53 4 = .ok (.iload_n 0, 1) := by decide +kernel
theorem dJ9_floorMod_7cf53_5 : decode cJ9_floorMod_7cf53 5 = .ok (.iload_n 1, 1) := by decide +kernel
theorem dJ9_floorMod_7cf53_6 : decode cJ9_floorMod_7cf53 6 = .ok (.ixor, 1) := by decide +kernel
theorem dJ9_floorMod_7cf53_7 : decode cJ9_floorMod_7cf53 7 = .ok (.ifCond .ge 11, 3) := by decide +kernel
theorem dJ9_floorMod_7cf53_10 : decode cJ9_floorMod_7cf53 10 = .ok (.iload_n 2, 1) := by decide +kernel
theorem dJ9_floorMod_7cf53_11 : decode cJ9_floorMod_7cf53 11 = .ok (.ifCond .eq 7, 3) := by decide +kernel
theorem dJ9_floorMod_7cf53_14 : decode cJ9_floorMod_7cf53 14 = .ok (.iload_n 2, 1) := by decide +kernel
theorem dJ9_floorMod_7cf53_15 : decode cJ9_floorMod_7cf53 15 = .ok (.iload_n 1, 1) := by decide +kernel
theorem dJ9_floorMod_7cf53_16 : decode cJ9_floorMod_7cf53 16 = .ok (.iadd, 1) := by decide +kernel
theorem dJ9_floorMod_7cf53_17 : decode cJ9_floorMod_7cf53 17 = .ok (.ireturn, 1) := by decide +kernel
theorem dJ9_floorMod_7cf53_18 : decode cJ9_floorMod_7cf53 18 = .ok (.iload_n 2, 1) := by decide +kernel
theorem dJ9_floorMod_7cf53_19 : decode cJ9_floorMod_7cf53 19 = .ok (.ireturn, 1) := by decide +kernel
theorem dJ9_abs_0f7a4_0 : decode cJ9_abs_0f7a4 0 = .ok (.iload_n 0, 1) := by decide +kernel
theorem dJ9_abs_0f7a4_1 : decode cJ9_abs_0f7a4 1 = .ok (.ifCond .ge 8, 3) := by decide +kernel
theorem dJ9_abs_0f7a4_4 : decode cJ9_abs_0f7a4 4 = .ok (.iload_n 0, 1) := by decide +kernel
theorem dJ9_abs_0f7a4_5 : decode cJ9_abs_0f7a4 5 = .ok (.ineg, 1) := by decide +kernel
theorem dJ9_abs_0f7a4_6 : decode cJ9_abs_0f7a4 6 = .ok (.goto 4, 3) := by decide +kernel
theorem dJ9_abs_0f7a4_9 : decode cJ9_abs_0f7a4 9 = .ok (.iload_n 0, 1) := by decide +kernel
theorem dJ9_abs_0f7a4_10 : decode cJ9_abs_0f7a4 10 = .ok (.ireturn, 1) := by decide +kernel
theorem dJ9_max_7cf53_0 : decode cJ9_max_7cf53 0 = .ok (.iload_n 0, 1) := by decide +kernel
theorem dJ9_max_7cf53_1 : decode cJ9_max_7cf53 1 = .ok (.iload_n 1, 1) := by decide +kernel
theorem dJ9_max_7cf53_2 : decode cJ9_max_7cf53 2 = .ok (.if_icmp .lt 7, 3) := by decide +kernel
theorem dJ9_max_7cf53_5 : decode cJ9_max_7cf53 5 = .ok (.iload_n 0, 1) := by decide +kernel
theorem dJ9_max_7cf53_6 : decode cJ9_max_7cf53 6 = .ok (.goto 4, 3) := by decide +kernel
theorem dJ9_max_7cf53_9 : decode cJ9_max_7cf53 9 = .ok (.iload_n 1, 1) := by decide +kernel
theorem dJ9_max_7cf53_10 : decode cJ9_max_7cf53 10 = .ok (.ireturn, 1) := by decide +kernel
theorem dJ9_min_7cf53_0 : decode cJ9_min_7cf53 0 = .ok (.iload_n 0, 1) := by decide +kernel
theorem dJ9_min_7cf53_1 : decode cJ9_min_7cf53 1 = .ok (.iload_n 1, 1) := by decide +kernel
theorem dJ9_min_7cf53_2 : decode cJ9_min_7cf53 2 = .ok (.if_icmp .gt 7, 3) := by decide +kernel
theorem dJ9_min_7cf53_5 : decode cJ9_min_7cf53 5 = .ok (.iload_n 0, 1) := by decide +kernel
theorem dJ9_min_7cf53_6 : decode cJ9_min_7cf53 6 = .ok (.goto 4, 3) := by decide +kernel
theorem dJ9_min_7cf53_9 : decode cJ9_min_7cf53 9 = .ok (.iload_n 1, 1) := by decide +kernel
theorem dJ9_min_7cf53_10 : decode cJ9_min_7cf53 10 = .ok (.ireturn, 1) := by decide +kernel
