theorem dX8_init_164 : decode cX8_init 164 = .ok (.putfield 68, 3) := by decide +kernel
theorem dX8_init_167 : decode cX8_init 167 = .ok (.aload_n 0, 1) := by decide +kernel
theorem dX8_init_168 : decode cX8_init 168 = .ok (.bipush 8, 2) := by decide +kernel
theorem dX8_init_170 : decode cX8_init 170 = .ok (.newarray .int, 2) := by decide +kernel
theorem dX8_init_172 : decode cX8_init 172 = .ok (.putfield 71, 3) := by decide +kernel
theorem dX8_init_175 : decode cX8_init 175 = .ok (.aload_n 0, 1) := by decide +kernel
theorem dX8_init_176 : decode cX8_init 176 = .ok (.bipush 8, 2) := by decide +kernel
theorem dX8_init_178 : decode cX8_init 178 = .ok (.newarray .int, 2) := by decide +kernel
theorem dX8_init_180 : decode cX8_init 180 = .ok (.putfield 74, 3) := by decide +kernel
theorem dX8_init_183 : decode cX8_init 183 = .ok (.aload_n 0, 1) := by decide +kernel
theorem dX8_init_184 : decode cX8_init 184 = .ok (.bipush 8, 2) := by decide +kernel
theorem dX8_init_186 : decode cX8_init 186 = .ok (.newarray .int, 2) := by decide +kernel
theorem dX8_init_188 : decode cX8_init 188 = .ok (.putfield 77, 3) := by decide +kernel
theorem dX8_init_191 : decode cX8_init 191 = .ok (.aload_n 0, 1) := by decide +kernel
theorem dX8_init_192 : decode cX8_init 192 = .ok (.bipush 10, 2) := by decide +kernel
theorem dX8_init_194 : decode cX8_init 194 = .ok (.newarray .int, 2) := by decide +kernel
theorem dX8_init_196 : decode cX8_init 196 = .ok (.putfield 80, 3) := by decide +kernel
theorem dX8_init_199 : decode cX8_init 199 = .ok (.aload_n 0, 1) := by decide +kernel
theorem dX8_init_200 : decode cX8_init 200 = .ok (.bipush 8, 2) := by decide +kernel
theorem dX8_init_202 : decode cX8_init 202 = .ok (.newarray .int, 2) := by decide +kernel
theorem dX8_init_204 : decode cX8_init 204 = .ok (.putfield 83, 3) := by decide +kernel
theorem dX8_init_207 : decode cX8_init 207 = .ok (.aload_n 0, 1) := by decide +kernel
theorem dX8_init_208 : decode cX8_init 208 = .ok (.bipush 10, 2) := by decide +kernel
theorem dX8_init_210 : decode cX8_init 210 = .ok (.newarray .int, 2) := by decide +kernel
theorem dX8_init_212 : decode cX8_init 212 = .ok (.putfield 86, 3) := by decide +kernel
theorem dX8_init_215 : decode cX8_init 215 = .ok (.aload_n 0, 1) := by decide +kernel
theorem dX8_init_216 : decode cX8_init 216 = .ok (.bipush 8, 2) := by decide +kernel
theorem dX8_init_218 : decode cX8_init 218 = .ok (.newarray .int, 2) := by decide +kernel
theorem dX8_init_220 : decode cX8_init 220 = .ok (.putfield 89, 3) := by decide +kernel
theorem dX8_init_223 : decode cX8_init 223 = .ok (.aload_n 0, 1) := by decide +kernel
theorem dX8_init_224 : decode cX8_init 224 = .ok (.invokevirtual 92, 3) := by decide +kernel
theorem dX8_init_227 : decode cX8_init 227 = .ok (.aload_n 0, 1) := by decide +kernel
theorem dX8_init_228 : decode cX8_init 228 = .ok (.invokevirtual 95, 3) := by decide +kernel
theorem dX8_init_231 : decode cX8_init 231 = .ok (.return_, 1) := by decide +kernel
theorem dX8_in_0 : decode cX8_in 0 = .ok (.iload_n 0, 1) := by decide +kernel
theorem dX8_in_1 : decode cX8_in 1 = .ok (.iload_n 1, 1) := by decide +kernel
theorem dX8_in_2 : decode cX8_in 2 = .ok (.if_icmp .lt 12, 3) := by decide +kernel
theorem dX8_in_5 : decode cX8_in 5 = .ok (.iload_n 0, 1) := by decide +kernel
theorem dX8_in_6 : decode cX8_in 6 = .ok (.iload_n 2, 1) := by decide +kernel
theorem dX8_in_7 : decode cX8_in 7 = .ok (.if_icmp .gt 7, 3) := by decide +kernel
theorem dX8_in_10 : decode cX8_in 10 = .ok (.iconst 1, 1) := by decide +kernel
theorem dX8_in_11 : decode cX8_in 11 = .ok (.goto 4, 3) := by decide +kernel
theorem dX8_in_14 : decode cX8_in 14 = .ok (.iconst 0, 1) := by decide +kernel
theorem dX8_in_15 : decode cX8_in 15 = .ok (.ireturn, 1) := by decide +kernel
theorem dX8_size_0 : decode cX8_size 0 = .ok (.iload_n 0, 1) := by decide +kernel
theorem dX8_size_1 : decode cX8_size 1 = .ok (.ifCond .ge 8, 3) := by decide +kernel
theorem dX8_size_4 : decode cX8_size 4 = .ok (.iload_n 0, 1) := by decide +kernel
theorem dX8_size_5 : decode cX8_size 5 = .ok (.ineg, 1) := by decide +kernel
theorem dX8_size_6 : decode cX8_size 6 = .ok (.goto 4, 3) := by decide +kernel
theorem dX8_size_9 : decode cX8_size 9 = .ok (.iload_n 0, 1) := by decide +kernel
theorem dX8_size_10 : decode cX8_size 10 = .ok (.ireturn, 1) := by decide +kernel
set_option maxRecDepth 20000 in
theorem ggX8_isPeak_X8_in : GoodIn wsX8_isPeak wsX8_in := goodIn_r _ [5] (by decide +kernel) (by decide +kernel)
set_option maxRecDepth 20000 in
theorem gX8_isPeak_X8_in : GoodIn wsX8_isPeak (va_wsS RX8 105 yX8_in wsX8_in) := goodIn_app (goodIn_of _ (by decide +kernel)) ggX8_isPeak_X8_in
theorem dX8_isPeak_0 : decode cX8_isPeak 0 = .ok (.iload_n 1, 1) := by decide +kernel
theorem dX8_isPeak_1 : decode cX8_isPeak 1 = .ok (.iconst 0, 1) := by decide +kernel
theorem dX8_isPeak_2 : decode cX8_isPeak 2 = .ok (.aload_n 0, 1) := by decide +kernel
theorem dX8_isPeak_3 : decode cX8_isPeak 3 = .ok (.getfield 102, 3) := by decide +kernel
theorem dX8_isPeak_6 : decode cX8_isPeak 6 = .ok (.iconst 1, 1) := by decide +kernel
theorem dX8_isPeak_7 : decode cX8_isPeak 7 = .ok (.isub, 1) := by decide +kernel
theorem dX8_isPeak_8 : decode cX8_isPeak 8 = .ok (.invokestatic 105, 3) := by decide +kernel
theorem dX8_isPeak_11 : decode cX8_isPeak 11 = .ok (.ireturn, 1) := by decide +kernel
set_option maxRecDepth 20000 in
theorem ggX8_isThere_X8_in : GoodIn wsX8_isThere wsX8_in := goodIn_r _ [5] (by decide +kernel) (by decide +kernel)
set_option maxRecDepth 20000 in
theorem gX8_isThere_X8_in : GoodIn wsX8_isThere (va_wsS RX8 105 yX8_in wsX8_in) := goodIn_app (goodIn_of _ (by decide +kernel)) ggX8_isThere_X8_in
theorem dX8_isThere_0 : decode cX8_isThere 0 = .ok (.iload_n 1, 1) := by decide +kernel
theorem dX8_isThere_1 : decode cX8_isThere 1 = .ok (.iconst 0, 1) := by decide +kernel
theorem dX8_isThere_2 : decode cX8_isThere 2 = .ok (.bipush 7, 2) := by decide +kernel
theorem dX8_isThere_4 : decode cX8_isThere 4 = .ok (.invokestatic 105, 3) := by decide +kernel
theorem dX8_isThere_7 : decode cX8_isThere 7 = .ok (.ifCond .eq 31, 3) := by decide +kernel
theorem dX8_isThere_10 : decode cX8_isThere 10 = .ok (.iload_n 2, 1) := by decide +kernel
theorem dX8_isThere_11 : decode cX8_isThere 11 = .ok (.iconst 0, 1) := by decide +kernel
theorem dX8_isThere_12 : decode cX8_isThere 12 = .ok (.bipush 7, 2) := by decide +kernel
theorem dX8_isThere_14 : decode cX8_isThere 14 = .ok (.invokestatic 105, 3) := by decide +kernel
theorem dX8_isThere_17 : decode cX8_isThere 17 = .ok (.ifCond .eq 21, 3) := by decide +kernel
theorem dX8_isThere_20 : decode cX8_isThere 20 = .ok (.aload_n 0, 1) := by decide +kernel
theorem dX8_isThere_21 : decode cX8_isThere 21 = .ok (.getfield 25, 3) := by decide +kernel
theorem dX8_isThere_24 : decode cX8_isThere 24 = .ok (.bipush 8, 2) := by decide +kernel
theorem dX8_isThere_26 : decode cX8_isThere 26 = .ok (.iload_n 1, 1) := by decide +kernel
theorem dX8_isThere_27 : decode cX8_isThere 27 = .ok (.imul, 1) := by decide +kernel
theorem dX8_isThere_28 : decode cX8_isThere 28 = .ok (.iload_n 2, 1) := by decide +kernel
theorem dX8_isThere_29 : decode cX8_isThere 29 = .ok (.iadd, 1) := by decide +kernel
theorem dX8_isThere_30 : decode cX8_isThere 30 = .ok (.baload, 1) := by decide +kernel
theorem dX8_isThere_31 : decode cX8_isThere 31 = .ok (.ifCond .eq 7, 3) := by decide +kernel
theorem dX8_isThere_34 : decode cX8_isThere 34 = .ok (.iconst 1, 1) := by decide +kernel
theorem dX8_isThere_35 : decode cX8_isThere 35 = .ok (.goto 4, 3) := by decide +kernel
theorem dX8_isThere_38 : decode cX8_isThere 38 = .ok (.iconst 0, 1) := by decide +kernel
theorem dX8_isThere_39 : decode cX8_isThere 39 = .ok (.ireturn, 1) := by decide +kernel
set_option maxRecDepth 20000 in
theorem ggX8_isNotch_X8_in : GoodIn wsX8_isNotch wsX8_in := goodIn_r _ [5] (by decide +kernel) (by decide +kernel)
set_option maxRecDepth 20000 in
theorem gX8_isNotch_X8_in : GoodIn wsX8_isNotch (va_wsS RX8 105 yX8_in wsX8_in) := goodIn_app (goodIn_of _ (by decide +kernel)) ggX8_isNotch_X8_in
theorem dX8_isNotch_0 : decode cX8_isNotch 0 = .ok (.iload_n 1, 1) := by decide +kernel
theorem dX8_isNotch_1 : decode cX8_isNotch 1 = .ok (.iconst 0, 1) := by decide +kernel
theorem dX8_isNotch_2 : decode cX8_isNotch 2 = .ok (.aload_n 0, 1) := by decide +kernel
theorem dX8_isNotch_3 : decode cX8_isNotch 3 = .ok (.getfield 38, 3) := by decide +kernel
theorem dX8_isNotch_6 : decode cX8_isNotch 6 = .ok (.iconst 0, 1) := by decide +kernel
theorem dX8_isNotch_7 : decode cX8_isNotch 7 = .ok (.iaload, 1) := by decide +kernel
theorem dX8_isNotch_8 : decode cX8_isNotch 8 = .ok (.iconst 1, 1) := by decide +kernel
theorem dX8_isNotch_9 : decode cX8_isNotch 9 = .ok (.isub, 1) := by decide +kernel
theorem dX8_isNotch_10 : decode cX8_isNotch 10 = .ok (.invokestatic 105, 3) := by decide +kernel
theorem dX8_isNotch_13 : decode cX8_isNotch 13 = .ok (.ireturn, 1) := by decide +kernel
set_option maxRecDepth 20000 in
theorem ggX8_type_X8_in : GoodIn wsX8_type wsX8_in := goodIn_r _ [7] (by decide +kernel) (by decide +kernel)
set_option maxRecDepth 20000 in
theorem gX8_type_X8_in : GoodIn wsX8_type (va_wsS RX8 105 yX8_in wsX8_in) := goodIn_app (goodIn_of _ (by decide +kernel)) ggX8_type_X8_in
theorem dX8_type_0 : decode cX8_type 0 = .ok (.aload_n 0, 1) := by decide +kernel
theorem dX8_type_1 : decode cX8_type 1 = .ok (.iconst 0, 1) := by decide +kernel
theorem dX8_type_2 : decode cX8_type 2 = .ok (.putfield 98, 3) := by decide +kernel
theorem dX8_type_5 : decode cX8_type 5 = .ok (.iload_n 1, 1) := by decide +kernel
theorem dX8_type_6 : decode cX8_type 6 = .ok (.iconst 0, 1) := by decide +kernel
theorem dX8_type_7 : decode cX8_type 7 = .ok (.sipush 255, 3) := by decide +kernel
theorem dX8_type_10 : decode cX8_type 10 = .ok (.invokestatic 105, 3) := by decide +kernel
theorem dX8_type_13 : decode cX8_type 13 = .ok (.ifCond .ne 5, 3) := by decide +kernel
theorem dX8_type_16 : decode cX8_type 16 = .ok (.iconst (-1), 1) := by decide +kernel
theorem dX8_type_17 : decode cX8_type 17 = .ok (.ireturn, 1) := by decide +kernel
theorem dX8_type_18 : decode cX8_type 18 = .ok (.aload_n 0, 1) := by decide +kernel
theorem dX8_type_19 : decode cX8_type 19 = .ok (.getfield 109, 3) := by decide +kernel
theorem dX8_type_22 : decode cX8_type 22 = .ok (.sipush 140, 3) := by decide +kernel
theorem dX8_type_25 : decode cX8_type 25 = .ok (.if_icmp .ne 6, 3) := by decide +kernel
theorem dX8_type_28 : decode cX8_type 28 = .ok (.bipush (-3), 2) := by decide +kernel
theorem dX8_type_30 : decode cX8_type 30 = .ok (.ireturn, 1) := by decide +kernel
theorem dX8_type_31 : decode cX8_type 31 = .ok (.aload_n 0, 1) := by decide +kernel
theorem dX8_type_32 : decode cX8_type 32 = .ok (.getfield 59, 3) := by decide +kernel
theorem dX8_type_35 : decode cX8_type 35 = .ok (.aload_n 0, 1) := by decide +kernel
theorem dX8_type_36 : decode cX8_type 36 = .ok (.getfield 109, 3) := by decide +kernel
theorem dX8_type_39 : decode cX8_type 39 = .ok (.iload_n 1, 1) := by decide +kernel
theorem dX8_type_40 : decode cX8_type 40 = .ok (.iastore, 1) := by decide +kernel
theorem dX8_type_41 : decode cX8_type 41 = .ok (.aload_n 0, 1) := by decide +kernel
theorem dX8_type_42 : decode cX8_type 42 = .ok (.dup, 1) := by decide +kernel
theorem dX8_type_43 : decode cX8_type 43 = .ok (.getfield 109, 3) := by decide +kernel
theorem dX8_type_46 : decode cX8_type 46 = .ok (.iconst 1, 1) := by decide +kernel
theorem dX8_type_47 : decode cX8_type 47 = .ok (.iadd, 1) := by decide +kernel
theorem dX8_type_48 : decode cX8_type 48 = .ok (.putfield 109, 3) := by decide +kernel
theorem dX8_type_51 : decode cX8_type 51 = .ok (.aload_n 0, 1) := by decide +kernel
theorem dX8_type_52 : decode cX8_type 52 = .ok (.getfield 109, 3) := by decide +kernel
theorem dX8_type_55 : decode cX8_type 55 = .ok (.ireturn, 1) := by decide +kernel
theorem dX8_clear_0 : decode cX8_clear 0 = .ok (.aload_n 0, 1) := by decide +kernel
theorem dX8_clear_1 : decode cX8_clear 1 = .ok (.iconst 0, 1) := by decide +kernel
theorem dX8_clear_2 : decode cX8_clear 2 = .ok (.putfield 98, 3) := by decide +kernel
theorem dX8_clear_5 : decode cX8_clear 5 = .ok (.aload_n 0, 1) := by decide +kernel
theorem dX8_clear_6 : decode cX8_clear 6 = .ok (.getfield 109, 3) := by decide +kernel
theorem dX8_clear_9 : decode cX8_clear 9 = .ok (.istore_n 1, 1) := by decide +kernel
theorem dX8_clear_10 : decode cX8_clear 10 = .ok (.aload_n 0, 1) := by decide +kernel
theorem dX8_clear_11 : decode cX8_clear 11 = .ok (.iconst 0, 1) := by decide +kernel
theorem dX8_clear_12 : decode cX8_clear 12 = .ok (.putfield 109, 3) := by decide +kernel
theorem dX8_clear_15 : decode cX8_clear 15 = .ok (.iload_n 1, 1) := by decide +kernel
theorem dX8_clear_16 : decode cX8_clear 16 = .ok (.ireturn, 1) := by decide +kernel
set_option maxRecDepth 20000 in
theorem ggX8_isFigure_X8_in : GoodIn wsX8_isFigure wsX8_in := goodIn_r _ [6] (by decide +kernel) (by decide +kernel)
set_option maxRecDepth 20000 in
theorem gX8_isFigure_X8_in : GoodIn wsX8_isFigure (va_wsS RX8 105 yX8_in wsX8_in) := goodIn_app (goodIn_of _ (by decide +kernel)) ggX8_isFigure_X8_in
theorem dX8_isFigure_0 : decode cX8_isFigure 0 = .ok (.iload_n 1, 1) := by decide +kernel
theorem dX8_isFigure_1 : decode cX8_isFigure 1 = .ok (.aload_n 0, 1) := by decide +kernel
theorem dX8_isFigure_2 : decode cX8_isFigure 2 = .ok (.getfield 109, 3) := by decide +kernel
theorem dX8_isFigure_5 : decode cX8_isFigure 5 = .ok (.if_icmp .ge 23, 3) := by decide +kernel
theorem dX8_isFigure_8 : decode cX8_isFigure 8 = .ok (.aload_n 0, 1) := by decide +kernel
theorem dX8_isFigure_9 : decode cX8_isFigure 9 = .ok (.getfield 59, 3) := by decide +kernel
theorem dX8_isFigure_12 : decode cX8_isFigure 12 = .ok (.iload_n 1, 1) := by decide +kernel
theorem dX8_isFigure_13 : decode cX8_isFigure 13 = .ok (.iaload, 1) := by decide +kernel
theorem dX8_isFigure_14 : decode cX8_isFigure 14 = .ok (.bipush 48, 2) := by decide +kernel
theorem dX8_isFigure_16 : decode cX8_isFigure 16 = .ok (.bipush 57, 2) := by decide +kernel
theorem dX8_isFigure_18 : decode cX8_isFigure 18 = .ok (.invokestatic 105, 3) := by decide +kernel
theorem dX8_isFigure_21 : decode cX8_isFigure 21 = .ok (.ifCond .eq 7, 3) := by decide +kernel
theorem dX8_isFigure_24 : decode cX8_isFigure 24 = .ok (.iconst 1, 1) := by decide +kernel
theorem dX8_isFigure_25 : decode cX8_isFigure 25 = .ok (.goto 4, 3) := by decide +kernel
theorem dX8_isFigure_28 : decode cX8_isFigure 28 = .ok (.iconst 0, 1) := by decide +kernel
theorem dX8_isFigure_29 : decode cX8_isFigure 29 = .ok (.ireturn, 1) := by decide +kernel
set_option maxRecDepth 20000 in
theorem ggX8_takes_X8_isFigure : GoodIn wsX8_takes wsX8_isFigure := goodIn_r _ [10, 2, 3, 11, 12, 9, 13, 14, 15, 16, 17, 18, 19, 20, 21, 22, 23, 24, 25, 26, 27, 28, 29, 30, 31, 32, 33, 34, 35, 36, 37, 38, 39, 40, 41, 42, 43, 44, 45, 46, 47, 48, 49, 50, 51, 52, 53, 54, 55, 56, 57] (by decide +kernel) (by decide +kernel)
set_option maxRecDepth 20000 in
theorem gX8_takes_X8_isFigure : GoodIn wsX8_takes (wsV RX8 121 RX8 yX8_isFigure wsX8_isFigure) := goodIn_app (goodIn_of _ (by decide +kernel)) ggX8_takes_X8_isFigure
theorem dX8_takes_0 : decode cX8_takes 0 = .ok (.aload_n 0, 1) := by decide +kernel
theorem dX8_takes_1 : decode cX8_takes 1 = .ok (.getfield 112, 3) := by decide +kernel
theorem dX8_takes_4 : decode cX8_takes 4 = .ok (.aload_n 0, 1) := by decide +kernel
theorem dX8_takes_5 : decode cX8_takes 5 = .ok (.getfield 109, 3) := by decide +kernel
theorem dX8_takes_8 : decode cX8_takes 8 = .ok (.if_icmp .ge 30, 3) := by decide +kernel
theorem dX8_takes_11 : decode cX8_takes 11 = .ok (.aload_n 0, 1) := by decide +kernel
theorem dX8_takes_12 : decode cX8_takes 12 = .ok (.getfield 59, 3) := by decide +kernel
theorem dX8_takes_15 : decode cX8_takes 15 = .ok (.aload_n 0, 1) := by decide +kernel
theorem dX8_takes_16 : decode cX8_takes 16 = .ok (.getfield 112, 3) := by decide +kernel
theorem dX8_takes_19 : decode cX8_takes 19 = .ok (.iaload, 1) := by decide +kernel
theorem dX8_takes_20 : decode cX8_takes 20 = .ok (.bipush 32, 2) := by decide +kernel
theorem dX8_takes_22 : decode cX8_takes 22 = .ok (.if_icmp .ne 16, 3) := by decide +kernel
theorem dX8_takes_25 : decode cX8_takes 25 = .ok (.aload_n 0, 1) := by decide +kernel
theorem dX8_takes_26 : decode cX8_takes 26 = .ok (.dup, 1) := by decide +kernel
theorem dX8_takes_27 : decode cX8_takes 27 = .ok (.getfield 112, 3) := by decide +kernel
theorem dX8_takes_30 : decode cX8_takes 30 = .ok (.iconst 1, 1) := by decide +kernel
theorem dX8_takes_31 : decode cX8_takes 31 = .ok (.iadd, 1) := by decide +kernel
theorem dX8_takes_32 : decode cX8_takes 32 = .ok (.putfield 112, 3) := by decide +kernel
theorem dX8_takes_35 : decode cX8_takes 35 = .ok (.goto (-35), 3) := by decide +kernel
theorem dX8_takes_38 : decode cX8_takes 38 = .ok (.aload_n 0, 1) := by decide +kernel
theorem dX8_takes_39 : decode cX8_takes 39 = .ok (.aload_n 0, 1) := by decide +kernel
theorem dX8_takes_40 : decode cX8_takes 40 = .ok (.getfield 112, 3) := by decide +kernel
theorem dX8_takes_43 : decode cX8_takes 43 = .ok (.putfield 115, 3) := by decide +kernel
theorem dX8_takes_46 : decode cX8_takes 46 = .ok (.aload_n 0, 1) := by decide +kernel
theorem dX8_takes_47 : decode cX8_takes 47 = .ok (.aload_n 0, 1) := by decide +kernel
theorem dX8_takes_48 : decode cX8_takes 48 = .ok (.getfield 112, 3) := by decide +kernel
theorem dX8_takes_51 : decode cX8_takes 51 = .ok (.aload_n 0, 1) := by decide +kernel
theorem dX8_takes_52 : decode cX8_takes 52 = .ok (.getfield 109, 3) := by decide +kernel
theorem dX8_takes_55 : decode cX8_takes 55 = .ok (.if_icmp .ge 15, 3) := by decide +kernel
theorem dX8_takes_58 : decode cX8_takes 58 = .ok (.aload_n 0, 1) := by decide +kernel
theorem dX8_takes_59 : decode cX8_takes 59 = .ok (.getfield 59, 3) := by decide +kernel
theorem dX8_takes_62 : decode cX8_takes 62 = .ok (.aload_n 0, 1) := by decide +kernel
theorem dX8_takes_63 : decode cX8_takes 63 = .ok (.getfield 112, 3) := by decide +kernel
theorem dX8_takes_66 : decode cX8_takes 66 = .ok (.iaload, 1) := by decide +kernel
theorem dX8_takes_67 : decode cX8_takes 67 = .ok (.goto 4, 3) := by decide +kernel
theorem dX8_takes_70 : decode cX8_takes 70 = .ok (.iconst (-1), 1) := by decide +kernel
theorem dX8_takes_71 : decode cX8_takes 71 = .ok (.putfield 118, 3) := by decide +kernel
theorem dX8_takes_74 : decode cX8_takes 74 = .ok (.aload_n 0, 1) := by decide +kernel
theorem dX8_takes_75 : decode cX8_takes 75 = .ok (.aload_n 0, 1) := by decide +kernel
theorem dX8_takes_76 : decode cX8_takes 76 = .ok (.getfield 112, 3) := by decide +kernel
theorem dX8_takes_79 : decode cX8_takes 79 = .ok (.invokevirtual 121, 3) := by decide +kernel
theorem dX8_takes_82 : decode cX8_takes 82 = .ok (.ifCond .ne 29, 3) := by decide +kernel
theorem dX8_takes_85 : decode cX8_takes 85 = .ok (.aload_n 0, 1) := by decide +kernel
theorem dX8_takes_86 : decode cX8_takes 86 = .ok (.dup, 1) := by decide +kernel
theorem dX8_takes_87 : decode cX8_takes 87 = .ok (.getfield 112, 3) := by decide +kernel
theorem dX8_takes_90 : decode cX8_takes 90 = .ok (.aload_n 0, 1) := by decide +kernel
theorem dX8_takes_91 : decode cX8_takes 91 = .ok (.getfield 112, 3) := by decide +kernel
theorem dX8_takes_94 : decode cX8_takes 94 = .ok (.aload_n 0, 1) := by decide +kernel
theorem dX8_takes_95 : decode cX8_takes 95 = .ok (.getfield 109, 3) := by decide +kernel
theorem dX8_takes_98 : decode cX8_takes 98 = .ok (.if_icmp .ge 7, 3) := by decide +kernel
theorem dX8_takes_101 : decode cX8_takes 101 = .ok (.iconst 1, 1) := by decide +kernel
theorem dX8_takes_102 : decode cX8_takes 102 = .ok (.goto 4, 3) := by decide +kernel
theorem dX8_takes_105 : decode cX8_takes 105 = .ok (.iconst 0, 1) := by decide +kernel
theorem dX8_takes_106 : decode cX8_takes 106 = .ok (.iadd, 1) := by decide +kernel
theorem dX8_takes_107 : decode cX8_takes 107 = .ok (.putfield 112, 3) := by decide +kernel
theorem dX8_takes_110 : decode cX8_takes 110 = .ok (.return_, 1) := by decide +kernel
theorem dX8_takes_111 : decode cX8_takes 111 = .ok (.iconst 0, 1) := by decide +kernel
theorem dX8_takes_112 : decode cX8_takes 112 = .ok (.istore_n 1, 1) := by decide +kernel
theorem dX8_takes_113 : decode cX8_takes 113 = .ok (.aload_n 0, 1) := by decide +kernel
theorem dX8_takes_114 : decode cX8_takes 114 = .ok (.aload_n 0, 1) := by decide +kernel
theorem dX8_takes_115 : decode cX8_takes 115 = .ok (.getfield 112, 3) := by decide +kernel
theorem dX8_takes_118 : decode cX8_takes 118 = .ok (.invokevirtual 121, 3) := by decide +kernel
theorem dX8_takes_121 : decode cX8_takes 121 = .ok (.ifCond .eq 44, 3) := by decide +kernel
theorem dX8_takes_124 : decode cX8_takes 124 = .ok (.iload_n 1, 1) := by decide +kernel
theorem dX8_takes_125 : decode cX8_takes 125 = .ok (.bipush 99, 2) := by decide +kernel
theorem dX8_takes_127 : decode cX8_takes 127 = .ok (.if_icmp .le 7, 3) := by decide +kernel
theorem dX8_takes_130 : decode cX8_takes 130 = .ok (.iload_n 1, 1) := by decide +kernel
theorem dX8_takes_131 : decode cX8_takes 131 = .ok (.goto 20, 3) := by decide +kernel
theorem dX8_takes_134 : decode cX8_takes 134 = .ok (.bipush 10, 2) := by decide +kernel
theorem dX8_takes_136 : decode cX8_takes 136 = .ok (.iload_n 1, 1) := by decide +kernel
theorem dX8_takes_137 : decode cX8_takes 137 = .ok (.imul, 1) := by decide +kernel
theorem dX8_takes_138 : decode cX8_takes 138 = .ok (.aload_n 0, 1) := by decide +kernel
theorem dX8_takes_139 : decode cX8_takes 139 = .ok (.getfield 59, 3) := by decide +kernel
theorem dX8_takes_142 : decode cX8_takes 142 = .ok (.aload_n 0, 1) := by decide +kernel
theorem dX8_takes_143 : decode cX8_takes 143 = .ok (.getfield 112, 3) := by decide +kernel
theorem dX8_takes_146 : decode cX8_takes 146 = .ok (.iaload, 1) := by decide +kernel
theorem dX8_takes_147 : decode cX8_takes 147 = .ok (.iadd, 1) := by decide +kernel
theorem dX8_takes_148 : decode cX8_takes 148 = .ok (.bipush 48, 2) := by decide +kernel
theorem dX8_takes_150 : decode cX8_takes 150 = .ok (.isub, 1) := by decide +kernel
theorem dX8_takes_151 : decode cX8_takes 151 = .ok (.istore_n 1, 1) := by decide +kernel
theorem dX8_takes_152 : decode cX8_takes 152 = .ok (.aload_n 0, 1) := by decide +kernel
theorem dX8_takes_153 : decode cX8_takes 153 = .ok (.dup, 1) := by decide +kernel
theorem dX8_takes_154 : decode cX8_takes 154 = .ok (.getfield 112, 3) := by decide +kernel
theorem dX8_takes_157 : decode cX8_takes 157 = .ok (.iconst 1, 1) := by decide +kernel
theorem dX8_takes_158 : decode cX8_takes 158 = .ok (.iadd, 1) := by decide +kernel
theorem dX8_takes_159 : decode cX8_takes 159 = .ok (.putfield 112, 3) := by decide +kernel
theorem dX8_takes_162 : decode cX8_takes 162 = .ok (.goto (-49), 3) := by decide +kernel
theorem dX8_takes_165 : decode cX8_takes 165 = .ok (.aload_n 0, 1) := by decide +kernel
theorem dX8_takes_166 : decode cX8_takes 166 = .ok (.iload_n 1, 1) := by decide +kernel
theorem dX8_takes_167 : decode cX8_takes 167 = .ok (.bipush 99, 2) := by decide +kernel
theorem dX8_takes_169 : decode cX8_takes 169 = .ok (.if_icmp .gt 30, 3) := by decide +kernel
theorem dX8_takes_172 : decode cX8_takes 172 = .ok (.aload_n 0, 1) := by decide +kernel
theorem dX8_takes_173 : decode cX8_takes 173 = .ok (.getfield 59, 3) := by decide +kernel
theorem dX8_takes_176 : decode cX8_takes 176 = .ok (.aload_n 0, 1) := by decide +kernel
theorem dX8_takes_177 : decode cX8_takes 177 = .ok (.getfield 115, 3) := by decide +kernel
theorem dX8_takes_180 : decode cX8_takes 180 = .ok (.iaload, 1) := by decide +kernel
theorem dX8_takes_181 : decode cX8_takes 181 = .ok (.bipush 48, 2) := by decide +kernel
theorem dX8_takes_183 : decode cX8_takes 183 = .ok (.if_icmp .ne 22, 3) := by decide +kernel
theorem dX8_takes_186 : decode cX8_takes 186 = .ok (.aload_n 0, 1) := by decide +kernel
theorem dX8_takes_187 : decode cX8_takes 187 = .ok (.getfield 112, 3) := by decide +kernel
theorem dX8_takes_190 : decode cX8_takes 190 = .ok (.aload_n 0, 1) := by decide +kernel
theorem dX8_takes_191 : decode cX8_takes 191 = .ok (.getfield 115, 3) := by decide +kernel
theorem dX8_takes_194 : decode cX8_takes 194 = .ok (.iconst 1, 1) := by decide +kernel
theorem dX8_takes_195 : decode cX8_takes 195 = .ok (.iadd, 1) := by decide +kernel
theorem dX8_takes_196 : decode cX8_takes 196 = .ok (.if_icmp .le 9, 3) := by decide +kernel
theorem dX8_takes_199 : decode cX8_takes 199 = .ok (.sipush 2000, 3) := by decide +kernel
theorem dX8_takes_202 : decode cX8_takes 202 = .ok (.goto 8, 3) := by decide +kernel
theorem dX8_takes_205 : decode cX8_takes 205 = .ok (.sipush 1000, 3) := by decide +kernel
theorem dX8_takes_208 : decode cX8_takes 208 = .ok (.iload_n 1, 1) := by decide +kernel
theorem dX8_takes_209 : decode cX8_takes 209 = .ok (.iadd, 1) := by decide +kernel
theorem dX8_takes_210 : decode cX8_takes 210 = .ok (.putfield 118, 3) := by decide +kernel
theorem dX8_takes_213 : decode cX8_takes 213 = .ok (.return_, 1) := by decide +kernel
set_option maxRecDepth 20000 in
theorem ggX8_reads_X8_takes : GoodIn wsX8_reads wsX8_takes := goodIn_r _ [7, 8, 9, 10, 11, 1, 12, 13, 14, 6, 15, 16, 17, 18, 19, 20, 21, 22, 23, 24, 25, 26, 27, 28, 29, 30, 31, 32, 33, 34, 35, 36, 37, 38, 39, 40, 41, 42, 43, 44, 45, 46, 47, 48, 49, 50, 51, 52, 53, 54, 55, 56, 57, 58, 59, 60, 61, 62] (by decide +kernel) (by decide +kernel)
set_option maxRecDepth 20000 in
theorem gX8_reads_X8_takes : GoodIn wsX8_reads (wsV RX8 125 RX8 yX8_takes wsX8_takes) := goodIn_app (goodIn_of _ (by decide +kernel)) ggX8_reads_X8_takes
set_option maxRecDepth 20000 in
theorem ggX8_reads_X8_in : GoodIn wsX8_reads wsX8_in := goodIn_r _ [18] (by decide +kernel) (by decide +kernel)
set_option maxRecDepth 20000 in
theorem gX8_reads_X8_in : GoodIn wsX8_reads (va_wsS RX8 105 yX8_in wsX8_in) := goodIn_app (goodIn_of _ (by decide +kernel)) ggX8_reads_X8_in
theorem dX8_reads_0 : decode cX8_reads 0 = .ok (.aload_n 0, 1) := by decide +kernel
theorem dX8_reads_1 : decode cX8_reads 1 = .ok (.invokevirtual 125, 3) := by decide +kernel
theorem dX8_reads_4 : decode cX8_reads 4 = .ok (.aload_n 0, 1) := by decide +kernel
theorem dX8_reads_5 : decode cX8_reads 5 = .ok (.aload_n 0, 1) := by decide +kernel
theorem dX8_reads_6 : decode cX8_reads 6 = .ok (.getfield 118, 3) := by decide +kernel
theorem dX8_reads_9 : decode cX8_reads 9 = .ok (.sipush 1000, 3) := by decide +kernel
theorem dX8_reads_12 : decode cX8_reads 12 = .ok (.isub, 1) := by decide +kernel
theorem dX8_reads_13 : decode cX8_reads 13 = .ok (.putfield 128, 3) := by decide +kernel
theorem dX8_reads_16 : decode cX8_reads 16 = .ok (.aload_n 0, 1) := by decide +kernel
theorem dX8_reads_17 : decode cX8_reads 17 = .ok (.getfield 128, 3) := by decide +kernel
theorem dX8_reads_20 : decode cX8_reads 20 = .ok (.iload_n 1, 1) := by decide +kernel
theorem dX8_reads_21 : decode cX8_reads 21 = .ok (.iload_n 2, 1) := by decide +kernel
theorem dX8_reads_22 : decode cX8_reads 22 = .ok (.invokestatic 105, 3) := by decide +kernel
theorem dX8_reads_25 : decode cX8_reads 25 = .ok (.ireturn, 1) := by decide +kernel
set_option maxRecDepth 20000 in
theorem ggX8_readsPeak_X8_reads : GoodIn wsX8_readsPeak wsX8_reads := goodIn_r _ [10, 11, 2, 12, 13, 14, 9, 15, 16, 17, 18, 19, 20, 21, 22, 23, 24, 25, 26, 27, 28, 29, 30, 31, 32, 33, 34, 35, 36, 37, 38, 39, 40, 41, 42, 43, 44, 45, 46, 47, 48, 49, 50, 51, 52, 53, 54, 55, 56, 57, 58, 59, 60, 61, 62, 63, 64, 65, 66, 67, 68, 69, 70] (by decide +kernel) (by decide +kernel)
set_option maxRecDepth 20000 in
theorem gX8_readsPeak_X8_reads : GoodIn wsX8_readsPeak (wsV RX8 134 RX8 yX8_reads wsX8_reads) := goodIn_app (goodIn_of _ (by decide +kernel)) ggX8_readsPeak_X8_reads
theorem dX8_readsPeak_0 : decode cX8_readsPeak 0 = .ok (.aload_n 0, 1) := by decide +kernel
theorem dX8_readsPeak_1 : decode cX8_readsPeak 1 = .ok (.getfield 131, 3) := by decide +kernel
theorem dX8_readsPeak_4 : decode cX8_readsPeak 4 = .ok (.bipush 10, 2) := by decide +kernel
theorem dX8_readsPeak_6 : decode cX8_readsPeak 6 = .ok (.if_icmp .eq 13, 3) := by decide +kernel
theorem dX8_readsPeak_9 : decode cX8_readsPeak 9 = .ok (.aload_n 0, 1) := by decide +kernel
theorem dX8_readsPeak_10 : decode cX8_readsPeak 10 = .ok (.iconst 0, 1) := by decide +kernel
theorem dX8_readsPeak_11 : decode cX8_readsPeak 11 = .ok (.bipush 7, 2) := by decide +kernel
theorem dX8_readsPeak_13 : decode cX8_readsPeak 13 = .ok (.invokevirtual 134, 3) := by decide +kernel
theorem dX8_readsPeak_16 : decode cX8_readsPeak 16 = .ok (.ifCond .ne 5, 3) := by decide +kernel
theorem dX8_readsPeak_19 : decode cX8_readsPeak 19 = .ok (.iconst 0, 1) := by decide +kernel
theorem dX8_readsPeak_20 : decode cX8_readsPeak 20 = .ok (.ireturn, 1) := by decide +kernel
theorem dX8_readsPeak_21 : decode cX8_readsPeak 21 = .ok (.aload_n 0, 1) := by decide +kernel
theorem dX8_readsPeak_22 : decode cX8_readsPeak 22 = .ok (.getfield 128, 3) := by decide +kernel
theorem dX8_readsPeak_25 : decode cX8_readsPeak 25 = .ok (.istore_n 1, 1) := by decide +kernel
theorem dX8_readsPeak_26 : decode cX8_readsPeak 26 = .ok (.aload_n 0, 1) := by decide +kernel
theorem dX8_readsPeak_27 : decode cX8_readsPeak 27 = .ok (.iconst 0, 1) := by decide +kernel
theorem dX8_readsPeak_28 : decode cX8_readsPeak 28 = .ok (.bipush 7, 2) := by decide +kernel
theorem dX8_readsPeak_30 : decode cX8_readsPeak 30 = .ok (.invokevirtual 134, 3) := by decide +kernel
theorem dX8_readsPeak_33 : decode cX8_readsPeak 33 = .ok (.ifCond .ne 5, 3) := by decide +kernel
theorem dX8_readsPeak_36 : decode cX8_readsPeak 36 = .ok (.iconst 0, 1) := by decide +kernel
theorem dX8_readsPeak_37 : decode cX8_readsPeak 37 = .ok (.ireturn, 1) := by decide +kernel
theorem dX8_readsPeak_38 : decode cX8_readsPeak 38 = .ok (.iconst 0, 1) := by decide +kernel
theorem dX8_readsPeak_39 : decode cX8_readsPeak 39 = .ok (.istore_n 2, 1) := by decide +kernel
theorem dX8_readsPeak_40 : decode cX8_readsPeak 40 = .ok (.iload_n 2, 1) := by decide +kernel
theorem dX8_readsPeak_41 : decode cX8_readsPeak 41 = .ok (.aload_n 0, 1) := by decide +kernel
theorem dX8_readsPeak_42 : decode cX8_readsPeak 42 = .ok (.getfield 131, 3) := by decide +kernel
theorem dX8_readsPeak_45 : decode cX8_readsPeak 45 = .ok (.if_icmp .ge 34, 3) := by decide +kernel
theorem dX8_readsPeak_48 : decode cX8_readsPeak 48 = .ok (.aload_n 0, 1) := by decide +kernel
theorem dX8_readsPeak_49 : decode cX8_readsPeak 49 = .ok (.getfield 62, 3) := by decide +kernel
theorem dX8_readsPeak_52 : decode cX8_readsPeak 52 = .ok (.iload_n 2, 1) := by decide +kernel
theorem dX8_readsPeak_53 : decode cX8_readsPeak 53 = .ok (.iaload, 1) := by decide +kernel
theorem dX8_readsPeak_54 : decode cX8_readsPeak 54 = .ok (.iload_n 1, 1) := by decide +kernel
theorem dX8_readsPeak_55 : decode cX8_readsPeak 55 = .ok (.if_icmp .ne 18, 3) := by decide +kernel
theorem dX8_readsPeak_58 : decode cX8_readsPeak 58 = .ok (.aload_n 0, 1) := by decide +kernel
theorem dX8_readsPeak_59 : decode cX8_readsPeak 59 = .ok (.getfield 65, 3) := by decide +kernel
theorem dX8_readsPeak_62 : decode cX8_readsPeak 62 = .ok (.iload_n 2, 1) := by decide +kernel
theorem dX8_readsPeak_63 : decode cX8_readsPeak 63 = .ok (.iaload, 1) := by decide +kernel
theorem dX8_readsPeak_64 : decode cX8_readsPeak 64 = .ok (.aload_n 0, 1) := by decide +kernel
theorem dX8_readsPeak_65 : decode cX8_readsPeak 65 = .ok (.getfield 128, 3) := by decide +kernel
theorem dX8_readsPeak_68 : decode cX8_readsPeak 68 = .ok (.if_icmp .ne 5, 3) := by decide +kernel
theorem dX8_readsPeak_71 : decode cX8_readsPeak 71 = .ok (.iconst 0, 1) := by decide +kernel
theorem dX8_readsPeak_72 : decode cX8_readsPeak 72 = .ok (.ireturn, 1) := by decide +kernel
theorem dX8_readsPeak_73 : decode cX8_readsPeak 73 = .ok (.iinc 2 1, 3) := by decide +kernel
theorem dX8_readsPeak_76 : decode cX8_readsPeak 76 = .ok (.goto (-36), 3) := by decide +kernel
theorem dX8_readsPeak_79 : decode cX8_readsPeak 79 = .ok (.aload_n 0, 1) := by decide +kernel
theorem dX8_readsPeak_80 : decode cX8_readsPeak 80 = .ok (.getfield 62, 3) := by decide +kernel
theorem dX8_readsPeak_83 : decode cX8_readsPeak 83 = .ok (.aload_n 0, 1) := by decide +kernel
theorem dX8_readsPeak_84 : decode cX8_readsPeak 84 = .ok (.getfield 131, 3) := by decide +kernel
theorem dX8_readsPeak_87 : decode cX8_readsPeak 87 = .ok (.iload_n 1, 1) := by decide +kernel
theorem dX8_readsPeak_88 : decode cX8_readsPeak 88 = .ok (.iastore, 1) := by decide +kernel
theorem dX8_readsPeak_89 : decode cX8_readsPeak 89 = .ok (.aload_n 0, 1) := by decide +kernel
theorem dX8_readsPeak_90 : decode cX8_readsPeak 90 = .ok (.getfield 65, 3) := by decide +kernel
theorem dX8_readsPeak_93 : decode cX8_readsPeak 93 = .ok (.aload_n 0, 1) := by decide +kernel
theorem dX8_readsPeak_94 : decode cX8_readsPeak 94 = .ok (.getfield 131, 3) := by decide +kernel
theorem dX8_readsPeak_97 : decode cX8_readsPeak 97 = .ok (.aload_n 0, 1) := by decide +kernel
theorem dX8_readsPeak_98 : decode cX8_readsPeak 98 = .ok (.getfield 128, 3) := by decide +kernel
theorem dX8_readsPeak_101 : decode cX8_readsPeak 101 = .ok (.iastore, 1) := by decide +kernel
theorem dX8_readsPeak_102 : decode cX8_readsPeak 102 = .ok (.aload_n 0, 1) := by decide +kernel
theorem dX8_readsPeak_103 : decode cX8_readsPeak 103 = .ok (.iconst 1, 1) := by decide +kernel
theorem dX8_readsPeak_104 : decode cX8_readsPeak 104 = .ok (.bipush 40, 2) := by decide +kernel
theorem dX8_readsPeak_106 : decode cX8_readsPeak 106 = .ok (.invokevirtual 134, 3) := by decide +kernel
theorem dX8_readsPeak_109 : decode cX8_readsPeak 109 = .ok (.istore_n 2, 1) := by decide +kernel
theorem dX8_readsPeak_110 : decode cX8_readsPeak 110 = .ok (.aload_n 0, 1) := by decide +kernel
theorem dX8_readsPeak_111 : decode cX8_readsPeak 111 = .ok (.getfield 68, 3) := by decide +kernel
theorem dX8_readsPeak_114 : decode cX8_readsPeak 114 = .ok (.aload_n 0, 1) := by decide +kernel
theorem dX8_readsPeak_115 : decode cX8_readsPeak 115 = .ok (.getfield 131, 3) := by decide +kernel
theorem dX8_readsPeak_118 : decode cX8_readsPeak 118 = .ok (.aload_n 0, 1) := by decide +kernel
theorem dX8_readsPeak_119 : decode cX8_readsPeak 119 = .ok (.getfield 128, 3) := by decide +kernel
theorem dX8_readsPeak_122 : decode cX8_readsPeak 122 = .ok (.iastore, 1) := by decide +kernel
theorem dX8_readsPeak_123 : decode cX8_readsPeak 123 = .ok (.aload_n 0, 1) := by decide +kernel
theorem dX8_readsPeak_124 : decode cX8_readsPeak 124 = .ok (.dup, 1) := by decide +kernel
theorem dX8_readsPeak_125 : decode cX8_readsPeak 125 = .ok (.getfield 131, 3) := by decide +kernel
theorem dX8_readsPeak_128 : decode cX8_readsPeak 128 = .ok (.iload_n 2, 1) := by decide +kernel
theorem dX8_readsPeak_129 : decode cX8_readsPeak 129 = .ok (.ifCond .eq 7, 3) := by decide +kernel
theorem dX8_readsPeak_132 : decode cX8_readsPeak 132 = .ok (.iconst 1, 1) := by decide +kernel
theorem dX8_readsPeak_133 : decode cX8_readsPeak 133 = .ok (.goto 4, 3) := by decide +kernel
theorem dX8_readsPeak_136 : decode cX8_readsPeak 136 = .ok (.iconst 0, 1) := by decide +kernel
theorem dX8_readsPeak_137 : decode cX8_readsPeak 137 = .ok (.iadd, 1) := by decide +kernel
theorem dX8_readsPeak_138 : decode cX8_readsPeak 138 = .ok (.putfield 131, 3) := by decide +kernel
theorem dX8_readsPeak_141 : decode cX8_readsPeak 141 = .ok (.iload_n 2, 1) := by decide +kernel
theorem dX8_readsPeak_142 : decode cX8_readsPeak 142 = .ok (.ireturn, 1) := by decide +kernel
set_option maxRecDepth 20000 in
theorem ggX8_readsRidge_X8_reads : GoodIn wsX8_readsRidge wsX8_reads := goodIn_r _ [10, 11, 4, 12, 13, 14, 9, 15, 16, 17, 18, 19, 20, 21, 22, 23, 24, 25, 26, 27, 28, 29, 30, 31, 32, 33, 34, 35, 36, 37, 38, 39, 40, 41, 42, 43, 44, 45, 46, 47, 48, 49, 50, 51, 52, 53, 54, 55, 56, 57, 58, 59, 60, 61, 62, 63, 64, 65, 66, 67, 68, 69, 70] (by decide +kernel) (by decide +kernel)
set_option maxRecDepth 20000 in
theorem gX8_readsRidge_X8_reads : GoodIn wsX8_readsRidge (wsV RX8 134 RX8 yX8_reads wsX8_reads) := goodIn_app (goodIn_of _ (by decide +kernel)) ggX8_readsRidge_X8_reads
theorem dX8_readsRidge_0 : decode cX8_readsRidge 0 = .ok (.aload_n 0, 1) := by decide +kernel
theorem dX8_readsRidge_1 : decode cX8_readsRidge 1 = .ok (.getfield 138, 3) := by decide +kernel
theorem dX8_readsRidge_4 : decode cX8_readsRidge 4 = .ok (.bipush 8, 2) := by decide +kernel
theorem dX8_readsRidge_6 : decode cX8_readsRidge 6 = .ok (.if_icmp .eq 17, 3) := by decide +kernel
theorem dX8_readsRidge_9 : decode cX8_readsRidge 9 = .ok (.aload_n 0, 1) := by decide +kernel
theorem dX8_readsRidge_10 : decode cX8_readsRidge 10 = .ok (.iconst 0, 1) := by decide +kernel
theorem dX8_readsRidge_11 : decode cX8_readsRidge 11 = .ok (.aload_n 0, 1) := by decide +kernel
theorem dX8_readsRidge_12 : decode cX8_readsRidge 12 = .ok (.getfield 131, 3) := by decide +kernel
theorem dX8_readsRidge_15 : decode cX8_readsRidge 15 = .ok (.iconst 1, 1) := by decide +kernel
theorem dX8_readsRidge_16 : decode cX8_readsRidge 16 = .ok (.isub, 1) := by decide +kernel
theorem dX8_readsRidge_17 : decode cX8_readsRidge 17 = .ok (.invokevirtual 134, 3) := by decide +kernel
theorem dX8_readsRidge_20 : decode cX8_readsRidge 20 = .ok (.ifCond .ne 5, 3) := by decide +kernel
theorem dX8_readsRidge_23 : decode cX8_readsRidge 23 = .ok (.iconst 0, 1) := by decide +kernel
theorem dX8_readsRidge_24 : decode cX8_readsRidge 24 = .ok (.ireturn, 1) := by decide +kernel
theorem dX8_readsRidge_25 : decode cX8_readsRidge 25 = .ok (.aload_n 0, 1) := by decide +kernel
theorem dX8_readsRidge_26 : decode cX8_readsRidge 26 = .ok (.getfield 71, 3) := by decide +kernel
theorem dX8_readsRidge_29 : decode cX8_readsRidge 29 = .ok (.aload_n 0, 1) := by decide +kernel
theorem dX8_readsRidge_30 : decode cX8_readsRidge 30 = .ok (.getfield 138, 3) := by decide +kernel
theorem dX8_readsRidge_33 : decode cX8_readsRidge 33 = .ok (.aload_n 0, 1) := by decide +kernel
theorem dX8_readsRidge_34 : decode cX8_readsRidge 34 = .ok (.getfield 128, 3) := by decide +kernel
theorem dX8_readsRidge_37 : decode cX8_readsRidge 37 = .ok (.iastore, 1) := by decide +kernel
theorem dX8_readsRidge_38 : decode cX8_readsRidge 38 = .ok (.aload_n 0, 1) := by decide +kernel
theorem dX8_readsRidge_39 : decode cX8_readsRidge 39 = .ok (.iconst 0, 1) := by decide +kernel
theorem dX8_readsRidge_40 : decode cX8_readsRidge 40 = .ok (.aload_n 0, 1) := by decide +kernel
theorem dX8_readsRidge_41 : decode cX8_readsRidge 41 = .ok (.getfield 131, 3) := by decide +kernel
theorem dX8_readsRidge_44 : decode cX8_readsRidge 44 = .ok (.iconst 1, 1) := by decide +kernel
theorem dX8_readsRidge_45 : decode cX8_readsRidge 45 = .ok (.isub, 1) := by decide +kernel
theorem dX8_readsRidge_46 : decode cX8_readsRidge 46 = .ok (.invokevirtual 134, 3) := by decide +kernel
theorem dX8_readsRidge_49 : decode cX8_readsRidge 49 = .ok (.ifCond .eq 23, 3) := by decide +kernel
theorem dX8_readsRidge_52 : decode cX8_readsRidge 52 = .ok (.aload_n 0, 1) := by decide +kernel
theorem dX8_readsRidge_53 : decode cX8_readsRidge 53 = .ok (.getfield 128, 3) := by decide +kernel
theorem dX8_readsRidge_56 : decode cX8_readsRidge 56 = .ok (.aload_n 0, 1) := by decide +kernel
theorem dX8_readsRidge_57 : decode cX8_readsRidge 57 = .ok (.getfield 71, 3) := by decide +kernel
theorem dX8_readsRidge_60 : decode cX8_readsRidge 60 = .ok (.aload_n 0, 1) := by decide +kernel
theorem dX8_readsRidge_61 : decode cX8_readsRidge 61 = .ok (.getfield 138, 3) := by decide +kernel
theorem dX8_readsRidge_64 : decode cX8_readsRidge 64 = .ok (.iaload, 1) := by decide +kernel
theorem dX8_readsRidge_65 : decode cX8_readsRidge 65 = .ok (.if_icmp .eq 7, 3) := by decide +kernel
theorem dX8_readsRidge_68 : decode cX8_readsRidge 68 = .ok (.iconst 1, 1) := by decide +kernel
theorem dX8_readsRidge_69 : decode cX8_readsRidge 69 = .ok (.goto 4, 3) := by decide +kernel
theorem dX8_readsRidge_72 : decode cX8_readsRidge 72 = .ok (.iconst 0, 1) := by decide +kernel
theorem dX8_readsRidge_73 : decode cX8_readsRidge 73 = .ok (.istore_n 1, 1) := by decide +kernel
theorem dX8_readsRidge_74 : decode cX8_readsRidge 74 = .ok (.aload_n 0, 1) := by decide +kernel
theorem dX8_readsRidge_75 : decode cX8_readsRidge 75 = .ok (.getfield 74, 3) := by decide +kernel
theorem dX8_readsRidge_78 : decode cX8_readsRidge 78 = .ok (.aload_n 0, 1) := by decide +kernel
theorem dX8_readsRidge_79 : decode cX8_readsRidge 79 = .ok (.getfield 138, 3) := by decide +kernel
theorem dX8_readsRidge_82 : decode cX8_readsRidge 82 = .ok (.aload_n 0, 1) := by decide +kernel
theorem dX8_readsRidge_83 : decode cX8_readsRidge 83 = .ok (.getfield 128, 3) := by decide +kernel
theorem dX8_readsRidge_86 : decode cX8_readsRidge 86 = .ok (.iastore, 1) := by decide +kernel
theorem dX8_readsRidge_87 : decode cX8_readsRidge 87 = .ok (.aload_n 0, 1) := by decide +kernel
theorem dX8_readsRidge_88 : decode cX8_readsRidge 88 = .ok (.dup, 1) := by decide +kernel
theorem dX8_readsRidge_89 : decode cX8_readsRidge 89 = .ok (.getfield 138, 3) := by decide +kernel
theorem dX8_readsRidge_92 : decode cX8_readsRidge 92 = .ok (.iload_n 1, 1) := by decide +kernel
theorem dX8_readsRidge_93 : decode cX8_readsRidge 93 = .ok (.ifCond .eq 7, 3) := by decide +kernel
theorem dX8_readsRidge_96 : decode cX8_readsRidge 96 = .ok (.iconst 1, 1) := by decide +kernel
theorem dX8_readsRidge_97 : decode cX8_readsRidge 97 = .ok (.goto 4, 3) := by decide +kernel
theorem dX8_readsRidge_100 : decode cX8_readsRidge 100 = .ok (.iconst 0, 1) := by decide +kernel
theorem dX8_readsRidge_101 : decode cX8_readsRidge 101 = .ok (.iadd, 1) := by decide +kernel
theorem dX8_readsRidge_102 : decode cX8_readsRidge 102 = .ok (.putfield 138, 3) := by decide +kernel
theorem dX8_readsRidge_105 : decode cX8_readsRidge 105 = .ok (.iload_n 1, 1) := by decide +kernel
theorem dX8_readsRidge_106 : decode cX8_readsRidge 106 = .ok (.ireturn, 1) := by decide +kernel
set_option maxRecDepth 20000 in
theorem ggX8_item_X8_readsPeak : GoodIn wsX8_item wsX8_readsPeak := goodIn_r _ [8, 9, 2, 10, 11, 12, 13, 14, 15, 7, 16, 1, 17, 18, 19, 20, 21, 22, 23, 24, 25, 26, 27, 28, 29, 30, 31, 39, 40, 41, 42, 43, 44, 45, 46, 47, 48, 49, 50, 51, 52, 53, 54, 55, 56, 57, 58, 59, 60, 61, 62, 63, 64, 65, 66, 67, 68, 69, 70, 71, 72, 73, 74, 75, 76, 77, 78, 79, 80, 81, 82] (by decide +kernel) (by decide +kernel)
set_option maxRecDepth 20000 in
theorem gX8_item_X8_readsPeak : GoodIn wsX8_item (wsV RX8 141 RX8 yX8_readsPeak wsX8_readsPeak) := goodIn_app (goodIn_of _ (by decide +kernel)) ggX8_item_X8_readsPeak
set_option maxRecDepth 20000 in
theorem ggX8_item_X8_readsRidge : GoodIn wsX8_item wsX8_readsRidge := goodIn_r _ [35, 36, 9, 37, 2, 38, 13, 14, 15, 7, 16, 1, 17, 18, 19, 20, 21, 22, 23, 24, 25, 26, 27, 28, 29, 30, 31, 39, 40, 41, 42, 43, 44, 45, 46, 47, 48, 49, 50, 51, 52, 53, 54, 55, 56, 57, 58, 59, 60, 61, 62, 63, 64, 65, 66, 67, 68, 69, 70, 71, 72, 73, 74, 75, 76, 77, 78, 79, 80, 81, 82] (by decide +kernel) (by decide +kernel)
set_option maxRecDepth 20000 in
theorem gX8_item_X8_readsRidge : GoodIn wsX8_item (wsV RX8 145 RX8 yX8_readsRidge wsX8_readsRidge) := goodIn_app (goodIn_of _ (by decide +kernel)) ggX8_item_X8_readsRidge
set_option maxRecDepth 20000 in
theorem ggX8_item_X8_reads : GoodIn wsX8_item wsX8_reads := goodIn_r _ [16, 1, 2, 17, 18, 19, 7, 20, 21, 22, 23, 24, 25, 26, 27, 28, 29, 30, 31, 39, 40, 41, 42, 43, 44, 45, 46, 47, 48, 49, 50, 51, 52, 53, 54, 55, 56, 57, 58, 59, 60, 61, 62, 63, 64, 65, 66, 67, 68, 69, 70, 71, 72, 73, 74, 75, 76, 77, 78, 79, 80, 81, 82] (by decide +kernel) (by decide +kernel)
set_option maxRecDepth 20000 in
theorem gX8_item_X8_reads : GoodIn wsX8_item (wsV RX8 134 RX8 yX8_reads wsX8_reads) := goodIn_app (goodIn_of _ (by decide +kernel)) ggX8_item_X8_reads
theorem dX8_item_0 : decode cX8_item 0 = .ok (.aload_n 0, 1) := by decide +kernel
theorem dX8_item_1 : decode cX8_item 1 = .ok (.getfield 118, 3) := by decide +kernel
theorem dX8_item_4 : decode cX8_item 4 = .ok (.bipush 112, 2) := by decide +kernel
theorem dX8_item_6 : decode cX8_item 6 = .ok (.if_icmp .ne 8, 3) := by decide +kernel
theorem dX8_item_9 : decode cX8_item 9 = .ok (.aload_n 0, 1) := by decide +kernel
theorem dX8_item_10 : decode cX8_item 10 = .ok (.invokevirtual 141, 3) := by decide +kernel
theorem dX8_item_13 : decode cX8_item 13 = .ok (.ireturn, 1) := by decide +kernel
theorem dX8_item_14 : decode cX8_item 14 = .ok (.aload_n 0, 1) := by decide +kernel
theorem dX8_item_15 : decode cX8_item 15 = .ok (.getfield 118, 3) := by decide +kernel
theorem dX8_item_18 : decode cX8_item 18 = .ok (.bipush 114, 2) := by decide +kernel
theorem dX8_item_20 : decode cX8_item 20 = .ok (.if_icmp .ne 8, 3) := by decide +kernel
theorem dX8_item_23 : decode cX8_item 23 = .ok (.aload_n 0, 1) := by decide +kernel
theorem dX8_item_24 : decode cX8_item 24 = .ok (.invokevirtual 145, 3) := by decide +kernel
theorem dX8_item_27 : decode cX8_item 27 = .ok (.ireturn, 1) := by decide +kernel
theorem dX8_item_28 : decode cX8_item 28 = .ok (.aload_n 0, 1) := by decide +kernel
theorem dX8_item_29 : decode cX8_item 29 = .ok (.getfield 118, 3) := by decide +kernel
theorem dX8_item_32 : decode cX8_item 32 = .ok (.bipush 115, 2) := by decide +kernel
theorem dX8_item_34 : decode cX8_item 34 = .ok (.if_icmp .ne 16, 3) := by decide +kernel
theorem dX8_item_37 : decode cX8_item 37 = .ok (.aload_n 0, 1) := by decide +kernel
theorem dX8_item_38 : decode cX8_item 38 = .ok (.iconst 0, 1) := by decide +kernel
theorem dX8_item_39 : decode cX8_item 39 = .ok (.iconst 3, 1) := by decide +kernel
theorem dX8_item_40 : decode cX8_item 40 = .ok (.invokevirtual 134, 3) := by decide +kernel
theorem dX8_item_43 : decode cX8_item 43 = .ok (.ifCond .eq 7, 3) := by decide +kernel
theorem dX8_item_46 : decode cX8_item 46 = .ok (.iconst 1, 1) := by decide +kernel
theorem dX8_item_47 : decode cX8_item 47 = .ok (.goto 4, 3) := by decide +kernel
theorem dX8_item_50 : decode cX8_item 50 = .ok (.iconst 0, 1) := by decide +kernel
theorem dX8_item_51 : decode cX8_item 51 = .ok (.istore_n 1, 1) := by decide +kernel
theorem dX8_item_52 : decode cX8_item 52 = .ok (.aload_n 0, 1) := by decide +kernel
theorem dX8_item_53 : decode cX8_item 53 = .ok (.aload_n 0, 1) := by decide +kernel
theorem dX8_item_54 : decode cX8_item 54 = .ok (.getfield 128, 3) := by decide +kernel
theorem dX8_item_57 : decode cX8_item 57 = .ok (.putfield 148, 3) := by decide +kernel
theorem dX8_item_60 : decode cX8_item 60 = .ok (.iload_n 1, 1) := by decide +kernel
theorem dX8_item_61 : decode cX8_item 61 = .ok (.ireturn, 1) := by decide +kernel
theorem dX8_begins_0 : decode cX8_begins 0 = .ok (.aload_n 0, 1) := by decide +kernel
theorem dX8_begins_1 : decode cX8_begins 1 = .ok (.iconst 0, 1) := by decide +kernel
theorem dX8_begins_2 : decode cX8_begins 2 = .ok (.putfield 131, 3) := by decide +kernel
theorem dX8_begins_5 : decode cX8_begins 5 = .ok (.aload_n 0, 1) := by decide +kernel
theorem dX8_begins_6 : decode cX8_begins 6 = .ok (.iconst 0, 1) := by decide +kernel
theorem dX8_begins_7 : decode cX8_begins 7 = .ok (.putfield 138, 3) := by decide +kernel
theorem dX8_begins_10 : decode cX8_begins 10 = .ok (.aload_n 0, 1) := by decide +kernel
theorem dX8_begins_11 : decode cX8_begins 11 = .ok (.iconst 1, 1) := by decide +kernel
theorem dX8_begins_12 : decode cX8_begins 12 = .ok (.putfield 148, 3) := by decide +kernel
theorem dX8_begins_15 : decode cX8_begins 15 = .ok (.return_, 1) := by decide +kernel
set_option maxRecDepth 20000 in
theorem ggX8_becomes_X8_laysPlaces : GoodIn wsX8_becomes wsX8_laysPlaces := goodIn_r _ [25, 26, 2, 3, 5, 27, 28, 29, 7, 30, 31, 32, 24, 33, 10, 34, 35, 36, 37, 38, 39, 40, 41, 42, 43, 44, 45, 46, 47, 48, 49, 50, 11, 13, 51, 52, 53, 54, 55, 56, 57, 58, 59, 60, 61, 62, 63, 64, 65, 66, 67, 68, 69, 70, 71, 72, 73, 74, 75, 76, 77, 78, 79, 80, 81, 82, 83, 84, 85, 86, 87, 88, 89, 90, 91, 92, 93, 94, 95, 96, 97, 98, 99, 100] (by decide +kernel) (by decide +kernel)
set_option maxRecDepth 20000 in
theorem gX8_becomes_X8_laysPlaces : GoodIn wsX8_becomes (wsV RX8 163 RX8 yX8_laysPlaces wsX8_laysPlaces) := goodIn_app (goodIn_of _ (by decide +kernel)) ggX8_becomes_X8_laysPlaces
theorem dX8_becomes_0 : decode cX8_becomes 0 = .ok (.aload_n 0, 1) := by decide +kernel
theorem dX8_becomes_1 : decode cX8_becomes 1 = .ok (.aload_n 0, 1) := by decide +kernel
theorem dX8_becomes_2 : decode cX8_becomes 2 = .ok (.getfield 131, 3) := by decide +kernel
theorem dX8_becomes_5 : decode cX8_becomes 5 = .ok (.putfield 102, 3) := by decide +kernel
theorem dX8_becomes_8 : decode cX8_becomes 8 = .ok (.iconst 0, 1) := by decide +kernel
theorem dX8_becomes_9 : decode cX8_becomes 9 = .ok (.istore_n 1, 1) := by decide +kernel
theorem dX8_becomes_10 : decode cX8_becomes 10 = .ok (.iload_n 1, 1) := by decide +kernel
theorem dX8_becomes_11 : decode cX8_becomes 11 = .ok (.bipush 10, 2) := by decide +kernel
theorem dX8_becomes_13 : decode cX8_becomes 13 = .ok (.if_icmp .ge 45, 3) := by decide +kernel
theorem dX8_becomes_16 : decode cX8_becomes 16 = .ok (.aload_n 0, 1) := by decide +kernel
theorem dX8_becomes_17 : decode cX8_becomes 17 = .ok (.getfield 7, 3) := by decide +kernel
theorem dX8_becomes_20 : decode cX8_becomes 20 = .ok (.iload_n 1, 1) := by decide +kernel
theorem dX8_becomes_21 : decode cX8_becomes 21 = .ok (.aload_n 0, 1) := by decide +kernel
theorem dX8_becomes_22 : decode cX8_becomes 22 = .ok (.getfield 62, 3) := by decide +kernel
theorem dX8_becomes_25 : decode cX8_becomes 25 = .ok (.iload_n 1, 1) := by decide +kernel
theorem dX8_becomes_26 : decode cX8_becomes 26 = .ok (.iaload, 1) := by decide +kernel
theorem dX8_becomes_27 : decode cX8_becomes 27 = .ok (.iastore, 1) := by decide +kernel
theorem dX8_becomes_28 : decode cX8_becomes 28 = .ok (.aload_n 0, 1) := by decide +kernel
theorem dX8_becomes_29 : decode cX8_becomes 29 = .ok (.getfield 13, 3) := by decide +kernel
theorem dX8_becomes_32 : decode cX8_becomes 32 = .ok (.iload_n 1, 1) := by decide +kernel
theorem dX8_becomes_33 : decode cX8_becomes 33 = .ok (.aload_n 0, 1) := by decide +kernel
theorem dX8_becomes_34 : decode cX8_becomes 34 = .ok (.getfield 65, 3) := by decide +kernel
theorem dX8_becomes_37 : decode cX8_becomes 37 = .ok (.iload_n 1, 1) := by decide +kernel
theorem dX8_becomes_38 : decode cX8_becomes 38 = .ok (.iaload, 1) := by decide +kernel
theorem dX8_becomes_39 : decode cX8_becomes 39 = .ok (.iastore, 1) := by decide +kernel
theorem dX8_becomes_40 : decode cX8_becomes 40 = .ok (.aload_n 0, 1) := by decide +kernel
theorem dX8_becomes_41 : decode cX8_becomes 41 = .ok (.getfield 16, 3) := by decide +kernel
theorem dX8_becomes_44 : decode cX8_becomes 44 = .ok (.iload_n 1, 1) := by decide +kernel
theorem dX8_becomes_45 : decode cX8_becomes 45 = .ok (.aload_n 0, 1) := by decide +kernel
theorem dX8_becomes_46 : decode cX8_becomes 46 = .ok (.getfield 68, 3) := by decide +kernel
theorem dX8_becomes_49 : decode cX8_becomes 49 = .ok (.iload_n 1, 1) := by decide +kernel
theorem dX8_becomes_50 : decode cX8_becomes 50 = .ok (.iaload, 1) := by decide +kernel
theorem dX8_becomes_51 : decode cX8_becomes 51 = .ok (.iastore, 1) := by decide +kernel
theorem dX8_becomes_52 : decode cX8_becomes 52 = .ok (.iinc 1 1, 3) := by decide +kernel
theorem dX8_becomes_55 : decode cX8_becomes 55 = .ok (.goto (-45), 3) := by decide +kernel
theorem dX8_becomes_58 : decode cX8_becomes 58 = .ok (.aload_n 0, 1) := by decide +kernel
theorem dX8_becomes_59 : decode cX8_becomes 59 = .ok (.aload_n 0, 1) := by decide +kernel
theorem dX8_becomes_60 : decode cX8_becomes 60 = .ok (.getfield 138, 3) := by decide +kernel
theorem dX8_becomes_63 : decode cX8_becomes 63 = .ok (.putfield 151, 3) := by decide +kernel
theorem dX8_becomes_66 : decode cX8_becomes 66 = .ok (.iconst 0, 1) := by decide +kernel
theorem dX8_becomes_67 : decode cX8_becomes 67 = .ok (.istore_n 1, 1) := by decide +kernel
theorem dX8_becomes_68 : decode cX8_becomes 68 = .ok (.iload_n 1, 1) := by decide +kernel
theorem dX8_becomes_69 : decode cX8_becomes 69 = .ok (.bipush 8, 2) := by decide +kernel
theorem dX8_becomes_71 : decode cX8_becomes 71 = .ok (.if_icmp .ge 33, 3) := by decide +kernel
theorem dX8_becomes_74 : decode cX8_becomes 74 = .ok (.aload_n 0, 1) := by decide +kernel
theorem dX8_becomes_75 : decode cX8_becomes 75 = .ok (.getfield 19, 3) := by decide +kernel
theorem dX8_becomes_78 : decode cX8_becomes 78 = .ok (.iload_n 1, 1) := by decide +kernel
theorem dX8_becomes_79 : decode cX8_becomes 79 = .ok (.aload_n 0, 1) := by decide +kernel
theorem dX8_becomes_80 : decode cX8_becomes 80 = .ok (.getfield 71, 3) := by decide +kernel
theorem dX8_becomes_83 : decode cX8_becomes 83 = .ok (.iload_n 1, 1) := by decide +kernel
theorem dX8_becomes_84 : decode cX8_becomes 84 = .ok (.iaload, 1) := by decide +kernel
theorem dX8_becomes_85 : decode cX8_becomes 85 = .ok (.iastore, 1) := by decide +kernel
theorem dX8_becomes_86 : decode cX8_becomes 86 = .ok (.aload_n 0, 1) := by decide +kernel
theorem dX8_becomes_87 : decode cX8_becomes 87 = .ok (.getfield 22, 3) := by decide +kernel
theorem dX8_becomes_90 : decode cX8_becomes 90 = .ok (.iload_n 1, 1) := by decide +kernel
theorem dX8_becomes_91 : decode cX8_becomes 91 = .ok (.aload_n 0, 1) := by decide +kernel
theorem dX8_becomes_92 : decode cX8_becomes 92 = .ok (.getfield 74, 3) := by decide +kernel
theorem dX8_becomes_95 : decode cX8_becomes 95 = .ok (.iload_n 1, 1) := by decide +kernel
theorem dX8_becomes_96 : decode cX8_becomes 96 = .ok (.iaload, 1) := by decide +kernel
theorem dX8_becomes_97 : decode cX8_becomes 97 = .ok (.iastore, 1) := by decide +kernel
theorem dX8_becomes_98 : decode cX8_becomes 98 = .ok (.iinc 1 1, 3) := by decide +kernel
theorem dX8_becomes_101 : decode cX8_becomes 101 = .ok (.goto (-33), 3) := by decide +kernel
theorem dX8_becomes_104 : decode cX8_becomes 104 = .ok (.aload_n 0, 1) := by decide +kernel
theorem dX8_becomes_105 : decode cX8_becomes 105 = .ok (.aload_n 0, 1) := by decide +kernel
theorem dX8_becomes_106 : decode cX8_becomes 106 = .ok (.getfield 148, 3) := by decide +kernel
theorem dX8_becomes_109 : decode cX8_becomes 109 = .ok (.putfield 154, 3) := by decide +kernel
theorem dX8_becomes_112 : decode cX8_becomes 112 = .ok (.aload_n 0, 1) := by decide +kernel
theorem dX8_becomes_113 : decode cX8_becomes 113 = .ok (.getfield 38, 3) := by decide +kernel
theorem dX8_becomes_116 : decode cX8_becomes 116 = .ok (.iconst 0, 1) := by decide +kernel
theorem dX8_becomes_117 : decode cX8_becomes 117 = .ok (.iconst 0, 1) := by decide +kernel
theorem dX8_becomes_118 : decode cX8_becomes 118 = .ok (.iastore, 1) := by decide +kernel
theorem dX8_becomes_119 : decode cX8_becomes 119 = .ok (.aload_n 0, 1) := by decide +kernel
theorem dX8_becomes_120 : decode cX8_becomes 120 = .ok (.iconst 0, 1) := by decide +kernel
theorem dX8_becomes_121 : decode cX8_becomes 121 = .ok (.putfield 157, 3) := by decide +kernel
theorem dX8_becomes_124 : decode cX8_becomes 124 = .ok (.aload_n 0, 1) := by decide +kernel
theorem dX8_becomes_125 : decode cX8_becomes 125 = .ok (.iconst 0, 1) := by decide +kernel
theorem dX8_becomes_126 : decode cX8_becomes 126 = .ok (.putfield 160, 3) := by decide +kernel
theorem dX8_becomes_129 : decode cX8_becomes 129 = .ok (.aload_n 0, 1) := by decide +kernel
theorem dX8_becomes_130 : decode cX8_becomes 130 = .ok (.getfield 47, 3) := by decide +kernel
theorem dX8_becomes_133 : decode cX8_becomes 133 = .ok (.iconst 0, 1) := by decide +kernel
theorem dX8_becomes_134 : decode cX8_becomes 134 = .ok (.iconst 0, 1) := by decide +kernel
theorem dX8_becomes_135 : decode cX8_becomes 135 = .ok (.bastore, 1) := by decide +kernel
theorem dX8_becomes_136 : decode cX8_becomes 136 = .ok (.aload_n 0, 1) := by decide +kernel
theorem dX8_becomes_137 : decode cX8_becomes 137 = .ok (.getfield 47, 3) := by decide +kernel
theorem dX8_becomes_140 : decode cX8_becomes 140 = .ok (.iconst 1, 1) := by decide +kernel
theorem dX8_becomes_141 : decode cX8_becomes 141 = .ok (.iconst 0, 1) := by decide +kernel
theorem dX8_becomes_142 : decode cX8_becomes 142 = .ok (.bastore, 1) := by decide +kernel
theorem dX8_becomes_143 : decode cX8_becomes 143 = .ok (.aload_n 0, 1) := by decide +kernel
theorem dX8_becomes_144 : decode cX8_becomes 144 = .ok (.invokevirtual 163, 3) := by decide +kernel
theorem dX8_becomes_147 : decode cX8_becomes 147 = .ok (.return_, 1) := by decide +kernel
set_option maxRecDepth 20000 in
theorem ggX8_land_X8_begins : GoodIn wsX8_land wsX8_begins := goodIn_r _ [10, 11, 12, 13, 99, 100, 101, 102, 103, 104, 105, 106, 107, 108, 109, 110, 111, 112, 113, 114, 115, 116, 117, 118, 119, 120, 121, 122, 123, 124, 125, 126, 127, 128, 129, 130, 131, 132, 133, 134, 135, 136, 137, 138, 139, 140, 141, 142] (by decide +kernel) (by decide +kernel)
set_option maxRecDepth 20000 in
theorem gX8_land_X8_begins : GoodIn wsX8_land (wsV RX8 92 RX8 yX8_begins wsX8_begins) := goodIn_app (goodIn_of _ (by decide +kernel)) ggX8_land_X8_begins
set_option maxRecDepth 20000 in
theorem ggX8_land_X8_takes : GoodIn wsX8_land wsX8_takes := goodIn_r _ [17, 2, 5, 18, 4, 3, 19, 20, 21, 9, 22, 23, 24, 25, 99, 100, 101, 102, 103, 104, 105, 106, 107, 108, 109, 110, 111, 112, 113, 114, 115, 116, 117, 118, 119, 120, 121, 122, 123, 124, 125, 126, 127, 128, 129, 130, 131, 132, 133, 134, 135, 136, 137, 138, 139, 140, 141, 142] (by decide +kernel) (by decide +kernel)
set_option maxRecDepth 20000 in
theorem gX8_land_X8_takes : GoodIn wsX8_land (wsV RX8 125 RX8 yX8_takes wsX8_takes) := goodIn_app (goodIn_of _ (by decide +kernel)) ggX8_land_X8_takes
set_option maxRecDepth 20000 in
theorem ggX8_land_X8_item : GoodIn wsX8_land wsX8_item := goodIn_r _ [29, 3, 30, 13, 31, 32, 33, 9, 34, 11, 35, 36, 37, 38, 39, 40, 41, 14, 15, 16, 17, 2, 5, 18, 4, 19, 20, 21, 22, 23, 24, 25, 42, 43, 44, 45, 12, 46, 47, 99, 100, 101, 102, 103, 104, 105, 106, 107, 108, 109, 110, 111, 112, 113, 114, 115, 116, 117, 118, 119, 120, 121, 122, 123, 124, 125, 126, 127, 128, 129, 130, 131, 132, 133, 134, 135, 136, 137, 138, 139, 140, 141, 142] (by decide +kernel) (by decide +kernel)
set_option maxRecDepth 20000 in
theorem gX8_land_X8_item : GoodIn wsX8_land (wsV RX8 166 RX8 yX8_item wsX8_item) := goodIn_app (goodIn_of _ (by decide +kernel)) ggX8_land_X8_item
set_option maxRecDepth 20000 in
theorem ggX8_land_X8_becomes : GoodIn wsX8_land wsX8_becomes := goodIn_r _ [51, 11, 52, 53, 35, 54, 36, 55, 37, 12, 56, 57, 46, 58, 47, 13, 59, 60, 61, 62, 63, 64, 65, 66, 9, 67, 68, 69, 70, 71, 72, 73, 74, 75, 76, 77, 78, 79, 80, 81, 82, 83, 84, 85, 86, 87, 88, 89, 90, 91, 92, 93, 94, 95, 96, 97, 98, 99, 100, 101, 102, 103, 104, 105, 106, 107, 108, 109, 110, 111, 112, 113, 114, 115, 116, 117, 118, 119, 120, 121, 122, 123, 124, 125, 126, 127, 128, 129, 130, 131, 132, 133, 134, 135, 136, 137, 138, 139, 140, 141, 142] (by decide +kernel) (by decide +kernel)
set_option maxRecDepth 20000 in
theorem gX8_land_X8_becomes : GoodIn wsX8_land (wsV RX8 95 RX8 yX8_becomes wsX8_becomes) := goodIn_app (goodIn_of _ (by decide +kernel)) ggX8_land_X8_becomes
theorem dX8_land_0 : decode cX8_land 0 = .ok (.aload_n 0, 1) := by decide +kernel
theorem dX8_land_1 : decode cX8_land 1 = .ok (.iconst 0, 1) := by decide +kernel
theorem dX8_land_2 : decode cX8_land 2 = .ok (.putfield 98, 3) := by decide +kernel
theorem dX8_land_5 : decode cX8_land 5 = .ok (.aload_n 0, 1) := by decide +kernel
theorem dX8_land_6 : decode cX8_land 6 = .ok (.invokevirtual 92, 3) := by decide +kernel
theorem dX8_land_9 : decode cX8_land 9 = .ok (.aload_n 0, 1) := by decide +kernel
theorem dX8_land_10 : decode cX8_land 10 = .ok (.iconst 0, 1) := by decide +kernel
theorem dX8_land_11 : decode cX8_land 11 = .ok (.putfield 112, 3) := by decide +kernel
theorem dX8_land_14 : decode cX8_land 14 = .ok (.iconst 0, 1) := by decide +kernel
theorem dX8_land_15 : decode cX8_land 15 = .ok (.istore_n 1, 1) := by decide +kernel
theorem dX8_land_16 : decode cX8_land 16 = .ok (.aload_n 0, 1) := by decide +kernel
theorem dX8_land_17 : decode cX8_land 17 = .ok (.invokevirtual 125, 3) := by decide +kernel
theorem dX8_land_20 : decode cX8_land 20 = .ok (.aload_n 0, 1) := by decide +kernel
theorem dX8_land_21 : decode cX8_land 21 = .ok (.getfield 118, 3) := by decide +kernel
theorem dX8_land_24 : decode cX8_land 24 = .ok (.iconst (-1), 1) := by decide +kernel
theorem dX8_land_25 : decode cX8_land 25 = .ok (.if_icmp .eq 47, 3) := by decide +kernel
theorem dX8_land_28 : decode cX8_land 28 = .ok (.aload_n 0, 1) := by decide +kernel
theorem dX8_land_29 : decode cX8_land 29 = .ok (.invokevirtual 166, 3) := by decide +kernel
theorem dX8_land_32 : decode cX8_land 32 = .ok (.istore_n 2, 1) := by decide +kernel
theorem dX8_land_33 : decode cX8_land 33 = .ok (.iload_n 2, 1) := by decide +kernel
theorem dX8_land_34 : decode cX8_land 34 = .ok (.ifCond .eq 7, 3) := by decide +kernel
theorem dX8_land_37 : decode cX8_land 37 = .ok (.aload_n 0, 1) := by decide +kernel
theorem dX8_land_38 : decode cX8_land 38 = .ok (.invokevirtual 125, 3) := by decide +kernel
theorem dX8_land_41 : decode cX8_land 41 = .ok (.iload_n 2, 1) := by decide +kernel
theorem dX8_land_42 : decode cX8_land 42 = .ok (.ifCond .eq 12, 3) := by decide +kernel
theorem dX8_land_45 : decode cX8_land 45 = .ok (.aload_n 0, 1) := by decide +kernel
theorem dX8_land_46 : decode cX8_land 46 = .ok (.getfield 118, 3) := by decide +kernel
theorem dX8_land_49 : decode cX8_land 49 = .ok (.bipush 59, 2) := by decide +kernel
theorem dX8_land_51 : decode cX8_land 51 = .ok (.if_icmp .eq 11, 3) := by decide +kernel
theorem dX8_land_54 : decode cX8_land 54 = .ok (.bipush (-10), 2) := by decide +kernel
theorem dX8_land_56 : decode cX8_land 56 = .ok (.aload_n 0, 1) := by decide +kernel
theorem dX8_land_57 : decode cX8_land 57 = .ok (.getfield 115, 3) := by decide +kernel
theorem dX8_land_60 : decode cX8_land 60 = .ok (.isub, 1) := by decide +kernel
theorem dX8_land_61 : decode cX8_land 61 = .ok (.ireturn, 1) := by decide +kernel
theorem dX8_land_62 : decode cX8_land 62 = .ok (.iinc 1 1, 3) := by decide +kernel
theorem dX8_land_65 : decode cX8_land 65 = .ok (.aload_n 0, 1) := by decide +kernel
theorem dX8_land_66 : decode cX8_land 66 = .ok (.invokevirtual 125, 3) := by decide +kernel
theorem dX8_land_69 : decode cX8_land 69 = .ok (.goto (-49), 3) := by decide +kernel
theorem dX8_land_72 : decode cX8_land 72 = .ok (.aload_n 0, 1) := by decide +kernel
theorem dX8_land_73 : decode cX8_land 73 = .ok (.invokevirtual 95, 3) := by decide +kernel
theorem dX8_land_76 : decode cX8_land 76 = .ok (.aload_n 0, 1) := by decide +kernel
theorem dX8_land_77 : decode cX8_land 77 = .ok (.iconst 0, 1) := by decide +kernel
theorem dX8_land_78 : decode cX8_land 78 = .ok (.putfield 109, 3) := by decide +kernel
theorem dX8_land_81 : decode cX8_land 81 = .ok (.iload_n 1, 1) := by decide +kernel
theorem dX8_land_82 : decode cX8_land 82 = .ok (.ireturn, 1) := by decide +kernel
set_option maxRecDepth 20000 in
theorem ggX8_peak_X8_isPeak : GoodIn wsX8_peak wsX8_isPeak := goodIn_r _ [9, 10, 11, 12, 8, 13, 14, 15, 16, 17, 18, 19, 20, 21, 22, 23, 24, 25, 26, 27, 28, 29, 30, 31, 32, 33, 34, 35, 36, 37, 38, 39, 40, 41, 42, 43, 44, 45, 46, 47, 48, 49, 50, 51, 52, 53, 54, 55, 56, 57] (by decide +kernel) (by decide +kernel)
set_option maxRecDepth 20000 in
theorem gX8_peak_X8_isPeak : GoodIn wsX8_peak (wsV RX8 169 RX8 yX8_isPeak wsX8_isPeak) := goodIn_app (goodIn_of _ (by decide +kernel)) ggX8_peak_X8_isPeak
set_option maxRecDepth 20000 in
theorem ggX8_peak_X8_in : GoodIn wsX8_peak wsX8_in := goodIn_r _ [13] (by decide +kernel) (by decide +kernel)
set_option maxRecDepth 20000 in
theorem gX8_peak_X8_in : GoodIn wsX8_peak (va_wsS RX8 105 yX8_in wsX8_in) := goodIn_app (goodIn_of _ (by decide +kernel)) ggX8_peak_X8_in
theorem dX8_peak_0 : decode cX8_peak 0 = .ok (.aload_n 0, 1) := by decide +kernel
theorem dX8_peak_1 : decode cX8_peak 1 = .ok (.iconst 0, 1) := by decide +kernel
theorem dX8_peak_2 : decode cX8_peak 2 = .ok (.putfield 98, 3) := by decide +kernel
theorem dX8_peak_5 : decode cX8_peak 5 = .ok (.aload_n 0, 1) := by decide +kernel
theorem dX8_peak_6 : decode cX8_peak 6 = .ok (.iload_n 1, 1) := by decide +kernel
theorem dX8_peak_7 : decode cX8_peak 7 = .ok (.invokevirtual 169, 3) := by decide +kernel
theorem dX8_peak_10 : decode cX8_peak 10 = .ok (.ifCond .eq 12, 3) := by decide +kernel
theorem dX8_peak_13 : decode cX8_peak 13 = .ok (.iload_n 2, 1) := by decide +kernel
theorem dX8_peak_14 : decode cX8_peak 14 = .ok (.iconst 0, 1) := by decide +kernel
theorem dX8_peak_15 : decode cX8_peak 15 = .ok (.iconst 2, 1) := by decide +kernel
theorem dX8_peak_16 : decode cX8_peak 16 = .ok (.invokestatic 105, 3) := by decide +kernel
theorem dX8_peak_19 : decode cX8_peak 19 = .ok (.ifCond .ne 5, 3) := by decide +kernel
theorem dX8_peak_22 : decode cX8_peak 22 = .ok (.iconst (-1), 1) := by decide +kernel
theorem dX8_peak_23 : decode cX8_peak 23 = .ok (.ireturn, 1) := by decide +kernel
theorem dX8_peak_24 : decode cX8_peak 24 = .ok (.iload_n 2, 1) := by decide +kernel
theorem dX8_peak_25 : decode cX8_peak 25 = .ok (.ifCond .ne 12, 3) := by decide +kernel
theorem dX8_peak_28 : decode cX8_peak 28 = .ok (.aload_n 0, 1) := by decide +kernel
theorem dX8_peak_29 : decode cX8_peak 29 = .ok (.getfield 7, 3) := by decide +kernel
theorem dX8_peak_32 : decode cX8_peak 32 = .ok (.iload_n 1, 1) := by decide +kernel
theorem dX8_peak_33 : decode cX8_peak 33 = .ok (.iaload, 1) := by decide +kernel
theorem dX8_peak_34 : decode cX8_peak 34 = .ok (.goto 23, 3) := by decide +kernel
theorem dX8_peak_37 : decode cX8_peak 37 = .ok (.iload_n 2, 1) := by decide +kernel
theorem dX8_peak_38 : decode cX8_peak 38 = .ok (.iconst 1, 1) := by decide +kernel
theorem dX8_peak_39 : decode cX8_peak 39 = .ok (.if_icmp .ne 12, 3) := by decide +kernel
theorem dX8_peak_42 : decode cX8_peak 42 = .ok (.aload_n 0, 1) := by decide +kernel
theorem dX8_peak_43 : decode cX8_peak 43 = .ok (.getfield 13, 3) := by decide +kernel
theorem dX8_peak_46 : decode cX8_peak 46 = .ok (.iload_n 1, 1) := by decide +kernel
theorem dX8_peak_47 : decode cX8_peak 47 = .ok (.iaload, 1) := by decide +kernel
theorem dX8_peak_48 : decode cX8_peak 48 = .ok (.goto 9, 3) := by decide +kernel
theorem dX8_peak_51 : decode cX8_peak 51 = .ok (.aload_n 0, 1) := by decide +kernel
theorem dX8_peak_52 : decode cX8_peak 52 = .ok (.getfield 16, 3) := by decide +kernel
theorem dX8_peak_55 : decode cX8_peak 55 = .ok (.iload_n 1, 1) := by decide +kernel
theorem dX8_peak_56 : decode cX8_peak 56 = .ok (.iaload, 1) := by decide +kernel
theorem dX8_peak_57 : decode cX8_peak 57 = .ok (.ireturn, 1) := by decide +kernel
set_option maxRecDepth 20000 in
theorem ggX8_ridge_X8_in : GoodIn wsX8_ridge wsX8_in := goodIn_r _ [8] (by decide +kernel) (by decide +kernel)
set_option maxRecDepth 20000 in
theorem gX8_ridge_X8_in : GoodIn wsX8_ridge (va_wsS RX8 105 yX8_in wsX8_in) := goodIn_app (goodIn_of _ (by decide +kernel)) ggX8_ridge_X8_in
theorem dX8_ridge_0 : decode cX8_ridge 0 = .ok (.aload_n 0, 1) := by decide +kernel
theorem dX8_ridge_1 : decode cX8_ridge 1 = .ok (.iconst 0, 1) := by decide +kernel
theorem dX8_ridge_2 : decode cX8_ridge 2 = .ok (.putfield 98, 3) := by decide +kernel
theorem dX8_ridge_5 : decode cX8_ridge 5 = .ok (.iload_n 1, 1) := by decide +kernel
theorem dX8_ridge_6 : decode cX8_ridge 6 = .ok (.iconst 0, 1) := by decide +kernel
theorem dX8_ridge_7 : decode cX8_ridge 7 = .ok (.aload_n 0, 1) := by decide +kernel
theorem dX8_ridge_8 : decode cX8_ridge 8 = .ok (.getfield 151, 3) := by decide +kernel
theorem dX8_ridge_11 : decode cX8_ridge 11 = .ok (.iconst 1, 1) := by decide +kernel
theorem dX8_ridge_12 : decode cX8_ridge 12 = .ok (.isub, 1) := by decide +kernel
theorem dX8_ridge_13 : decode cX8_ridge 13 = .ok (.invokestatic 105, 3) := by decide +kernel
theorem dX8_ridge_16 : decode cX8_ridge 16 = .ok (.ifCond .eq 12, 3) := by decide +kernel
theorem dX8_ridge_19 : decode cX8_ridge 19 = .ok (.iload_n 2, 1) := by decide +kernel
theorem dX8_ridge_20 : decode cX8_ridge 20 = .ok (.iconst 0, 1) := by decide +kernel
theorem dX8_ridge_21 : decode cX8_ridge 21 = .ok (.iconst 1, 1) := by decide +kernel
theorem dX8_ridge_22 : decode cX8_ridge 22 = .ok (.invokestatic 105, 3) := by decide +kernel
theorem dX8_ridge_25 : decode cX8_ridge 25 = .ok (.ifCond .ne 5, 3) := by decide +kernel
theorem dX8_ridge_28 : decode cX8_ridge 28 = .ok (.iconst (-1), 1) := by decide +kernel
theorem dX8_ridge_29 : decode cX8_ridge 29 = .ok (.ireturn, 1) := by decide +kernel
theorem dX8_ridge_30 : decode cX8_ridge 30 = .ok (.iload_n 2, 1) := by decide +kernel
theorem dX8_ridge_31 : decode cX8_ridge 31 = .ok (.ifCond .ne 12, 3) := by decide +kernel
theorem dX8_ridge_34 : decode cX8_ridge 34 = .ok (.aload_n 0, 1) := by decide +kernel
theorem dX8_ridge_35 : decode cX8_ridge 35 = .ok (.getfield 19, 3) := by decide +kernel
theorem dX8_ridge_38 : decode cX8_ridge 38 = .ok (.iload_n 1, 1) := by decide +kernel
theorem dX8_ridge_39 : decode cX8_ridge 39 = .ok (.iaload, 1) := by decide +kernel
theorem dX8_ridge_40 : decode cX8_ridge 40 = .ok (.goto 9, 3) := by decide +kernel
theorem dX8_ridge_43 : decode cX8_ridge 43 = .ok (.aload_n 0, 1) := by decide +kernel
theorem dX8_ridge_44 : decode cX8_ridge 44 = .ok (.getfield 22, 3) := by decide +kernel
theorem dX8_ridge_47 : decode cX8_ridge 47 = .ok (.iload_n 1, 1) := by decide +kernel
theorem dX8_ridge_48 : decode cX8_ridge 48 = .ok (.iaload, 1) := by decide +kernel
theorem dX8_ridge_49 : decode cX8_ridge 49 = .ok (.ireturn, 1) := by decide +kernel
theorem dX8_cross_0 : decode cX8_cross 0 = .ok (.iload_n 0, 1) := by decide +kernel
theorem dX8_cross_1 : decode cX8_cross 1 = .ok (.iload_n 3, 1) := by decide +kernel
theorem dX8_cross_2 : decode cX8_cross 2 = .ok (.imul, 1) := by decide +kernel
theorem dX8_cross_3 : decode cX8_cross 3 = .ok (.iload_n 1, 1) := by decide +kernel
theorem dX8_cross_4 : decode cX8_cross 4 = .ok (.iload_n 2, 1) := by decide +kernel
theorem dX8_cross_5 : decode cX8_cross 5 = .ok (.imul, 1) := by decide +kernel
theorem dX8_cross_6 : decode cX8_cross 6 = .ok (.isub, 1) := by decide +kernel
theorem dX8_cross_7 : decode cX8_cross 7 = .ok (.ireturn, 1) := by decide +kernel
set_option maxRecDepth 20000 in
theorem ggX8_way_X8_size : GoodIn wsX8_way wsX8_size := goodIn_r _ [4] (by decide +kernel) (by decide +kernel)
set_option maxRecDepth 20000 in
theorem gX8_way_X8_size : GoodIn wsX8_way (va_wsS RX8 172 yX8_size wsX8_size) := goodIn_app (goodIn_of _ (by decide +kernel)) ggX8_way_X8_size
theorem dX8_way_0 : decode cX8_way 0 = .ok (.iload_n 0, 1) := by decide +kernel
theorem dX8_way_1 : decode cX8_way 1 = .ok (.invokestatic 172, 3) := by decide +kernel
theorem dX8_way_4 : decode cX8_way 4 = .ok (.iload_n 1, 1) := by decide +kernel
theorem dX8_way_5 : decode cX8_way 5 = .ok (.invokestatic 172, 3) := by decide +kernel
theorem dX8_way_8 : decode cX8_way 8 = .ok (.if_icmp .le 10, 3) := by decide +kernel
theorem dX8_way_11 : decode cX8_way 11 = .ok (.iload_n 0, 1) := by decide +kernel
theorem dX8_way_12 : decode cX8_way 12 = .ok (.invokestatic 172, 3) := by decide +kernel
theorem dX8_way_15 : decode cX8_way 15 = .ok (.goto 7, 3) := by decide +kernel
theorem dX8_way_18 : decode cX8_way 18 = .ok (.iload_n 1, 1) := by decide +kernel
theorem dX8_way_19 : decode cX8_way 19 = .ok (.invokestatic 172, 3) := by decide +kernel
theorem dX8_way_22 : decode cX8_way 22 = .ok (.ireturn, 1) := by decide +kernel
set_option maxRecDepth 20000 in
theorem ggX8_hides_X8_cross : GoodIn wsX8_hides wsX8_cross := goodIn_r _ [7] (by decide +kernel) (by decide +kernel)
set_option maxRecDepth 20000 in
theorem gX8_hides_X8_cross : GoodIn wsX8_hides (va_wsS RX8 176 yX8_cross wsX8_cross) := goodIn_app (goodIn_of _ (by decide +kernel)) ggX8_hides_X8_cross
set_option maxRecDepth 20000 in
theorem ggX8_hides_X8_way : GoodIn wsX8_hides wsX8_way := goodIn_r _ [10, 11, 12, 6, 13] (by decide +kernel) (by decide +kernel)
set_option maxRecDepth 20000 in
theorem gX8_hides_X8_way : GoodIn wsX8_hides (va_wsS RX8 180 yX8_way wsX8_way) := goodIn_app (goodIn_of _ (by decide +kernel)) ggX8_hides_X8_way
theorem dX8_hides_0 : decode cX8_hides 0 = .ok (.aload_n 0, 1) := by decide +kernel
theorem dX8_hides_1 : decode cX8_hides 1 = .ok (.getfield 7, 3) := by decide +kernel
theorem dX8_hides_4 : decode cX8_hides 4 = .ok (.iload 4, 2) := by decide +kernel
theorem dX8_hides_6 : decode cX8_hides 6 = .ok (.iaload, 1) := by decide +kernel
theorem dX8_hides_7 : decode cX8_hides 7 = .ok (.iload_n 1, 1) := by decide +kernel
theorem dX8_hides_8 : decode cX8_hides 8 = .ok (.isub, 1) := by decide +kernel
theorem dX8_hides_9 : decode cX8_hides 9 = .ok (.istore 5, 2) := by decide +kernel
theorem dX8_hides_11 : decode cX8_hides 11 = .ok (.aload_n 0, 1) := by decide +kernel
theorem dX8_hides_12 : decode cX8_hides 12 = .ok (.getfield 13, 3) := by decide +kernel
theorem dX8_hides_15 : decode cX8_hides 15 = .ok (.iload 4, 2) := by decide +kernel
theorem dX8_hides_17 : decode cX8_hides 17 = .ok (.iaload, 1) := by decide +kernel
theorem dX8_hides_18 : decode cX8_hides 18 = .ok (.iload_n 2, 1) := by decide +kernel
theorem dX8_hides_19 : decode cX8_hides 19 = .ok (.isub, 1) := by decide +kernel
theorem dX8_hides_20 : decode cX8_hides 20 = .ok (.istore 6, 2) := by decide +kernel
theorem dX8_hides_22 : decode cX8_hides 22 = .ok (.aload_n 0, 1) := by decide +kernel
theorem dX8_hides_23 : decode cX8_hides 23 = .ok (.getfield 7, 3) := by decide +kernel
theorem dX8_hides_26 : decode cX8_hides 26 = .ok (.iload_n 3, 1) := by decide +kernel
theorem dX8_hides_27 : decode cX8_hides 27 = .ok (.iaload, 1) := by decide +kernel
theorem dX8_hides_28 : decode cX8_hides 28 = .ok (.iload_n 1, 1) := by decide +kernel
theorem dX8_hides_29 : decode cX8_hides 29 = .ok (.isub, 1) := by decide +kernel
theorem dX8_hides_30 : decode cX8_hides 30 = .ok (.istore 7, 2) := by decide +kernel
theorem dX8_hides_32 : decode cX8_hides 32 = .ok (.aload_n 0, 1) := by decide +kernel
theorem dX8_hides_33 : decode cX8_hides 33 = .ok (.getfield 13, 3) := by decide +kernel
theorem dX8_hides_36 : decode cX8_hides 36 = .ok (.iload_n 3, 1) := by decide +kernel
theorem dX8_hides_37 : decode cX8_hides 37 = .ok (.iaload, 1) := by decide +kernel
theorem dX8_hides_38 : decode cX8_hides 38 = .ok (.iload_n 2, 1) := by decide +kernel
theorem dX8_hides_39 : decode cX8_hides 39 = .ok (.isub, 1) := by decide +kernel
theorem dX8_hides_40 : decode cX8_hides 40 = .ok (.istore 8, 2) := by decide +kernel
theorem dX8_hides_42 : decode cX8_hides 42 = .ok (.iload 5, 2) := by decide +kernel
theorem dX8_hides_44 : decode cX8_hides 44 = .ok (.iload 6, 2) := by decide +kernel
theorem dX8_hides_46 : decode cX8_hides 46 = .ok (.iload 7, 2) := by decide +kernel
theorem dX8_hides_48 : decode cX8_hides 48 = .ok (.iload 8, 2) := by decide +kernel
theorem dX8_hides_50 : decode cX8_hides 50 = .ok (.invokestatic 176, 3) := by decide +kernel
theorem dX8_hides_53 : decode cX8_hides 53 = .ok (.ifCond .ne 38, 3) := by decide +kernel
theorem dX8_hides_56 : decode cX8_hides 56 = .ok (.iload 5, 2) := by decide +kernel
theorem dX8_hides_58 : decode cX8_hides 58 = .ok (.iload 7, 2) := by decide +kernel
theorem dX8_hides_60 : decode cX8_hides 60 = .ok (.imul, 1) := by decide +kernel
theorem dX8_hides_61 : decode cX8_hides 61 = .ok (.iload 6, 2) := by decide +kernel
theorem dX8_hides_63 : decode cX8_hides 63 = .ok (.iload 8, 2) := by decide +kernel
theorem dX8_hides_65 : decode cX8_hides 65 = .ok (.imul, 1) := by decide +kernel
theorem dX8_hides_66 : decode cX8_hides 66 = .ok (.iadd, 1) := by decide +kernel
theorem dX8_hides_67 : decode cX8_hides 67 = .ok (.ifCond .le 24, 3) := by decide +kernel
theorem dX8_hides_70 : decode cX8_hides 70 = .ok (.iload 7, 2) := by decide +kernel
theorem dX8_hides_72 : decode cX8_hides 72 = .ok (.iload 8, 2) := by decide +kernel
theorem dX8_hides_74 : decode cX8_hides 74 = .ok (.invokestatic 180, 3) := by decide +kernel
theorem dX8_hides_77 : decode cX8_hides 77 = .ok (.iload 5, 2) := by decide +kernel
theorem dX8_hides_79 : decode cX8_hides 79 = .ok (.iload 6, 2) := by decide +kernel
theorem dX8_hides_81 : decode cX8_hides 81 = .ok (.invokestatic 180, 3) := by decide +kernel
theorem dX8_hides_84 : decode cX8_hides 84 = .ok (.if_icmp .ge 7, 3) := by decide +kernel
theorem dX8_hides_87 : decode cX8_hides 87 = .ok (.iconst 1, 1) := by decide +kernel
theorem dX8_hides_88 : decode cX8_hides 88 = .ok (.goto 4, 3) := by decide +kernel
theorem dX8_hides_91 : decode cX8_hides 91 = .ok (.iconst 0, 1) := by decide +kernel
theorem dX8_hides_92 : decode cX8_hides 92 = .ok (.istore 9, 2) := by decide +kernel
theorem dX8_hides_94 : decode cX8_hides 94 = .ok (.iload 9, 2) := by decide +kernel
theorem dX8_hides_96 : decode cX8_hides 96 = .ok (.ifCond .eq 39, 3) := by decide +kernel
theorem dX8_hides_99 : decode cX8_hides 99 = .ok (.aload_n 0, 1) := by decide +kernel
theorem dX8_hides_100 : decode cX8_hides 100 = .ok (.getfield 16, 3) := by decide +kernel
theorem dX8_hides_103 : decode cX8_hides 103 = .ok (.iload_n 3, 1) := by decide +kernel
theorem dX8_hides_104 : decode cX8_hides 104 = .ok (.iaload, 1) := by decide +kernel
theorem dX8_hides_105 : decode cX8_hides 105 = .ok (.iload 5, 2) := by decide +kernel
theorem dX8_hides_107 : decode cX8_hides 107 = .ok (.iload 6, 2) := by decide +kernel
theorem dX8_hides_109 : decode cX8_hides 109 = .ok (.invokestatic 180, 3) := by decide +kernel
theorem dX8_hides_112 : decode cX8_hides 112 = .ok (.imul, 1) := by decide +kernel
theorem dX8_hides_113 : decode cX8_hides 113 = .ok (.aload_n 0, 1) := by decide +kernel
theorem dX8_hides_114 : decode cX8_hides 114 = .ok (.getfield 16, 3) := by decide +kernel
theorem dX8_hides_117 : decode cX8_hides 117 = .ok (.iload 4, 2) := by decide +kernel
theorem dX8_hides_119 : decode cX8_hides 119 = .ok (.iaload, 1) := by decide +kernel
theorem dX8_hides_120 : decode cX8_hides 120 = .ok (.iload 7, 2) := by decide +kernel
theorem dX8_hides_122 : decode cX8_hides 122 = .ok (.iload 8, 2) := by decide +kernel
theorem dX8_hides_124 : decode cX8_hides 124 = .ok (.invokestatic 180, 3) := by decide +kernel
theorem dX8_hides_127 : decode cX8_hides 127 = .ok (.imul, 1) := by decide +kernel
theorem dX8_hides_128 : decode cX8_hides 128 = .ok (.if_icmp .lt 7, 3) := by decide +kernel
theorem dX8_hides_131 : decode cX8_hides 131 = .ok (.iconst 1, 1) := by decide +kernel
theorem dX8_hides_132 : decode cX8_hides 132 = .ok (.goto 4, 3) := by decide +kernel
theorem dX8_hides_135 : decode cX8_hides 135 = .ok (.iconst 0, 1) := by decide +kernel
theorem dX8_hides_136 : decode cX8_hides 136 = .ok (.ireturn, 1) := by decide +kernel
set_option maxRecDepth 20000 in
theorem ggX8_ridgeHides_X8_cross : GoodIn wsX8_ridgeHides wsX8_cross := goodIn_r _ [9] (by decide +kernel) (by decide +kernel)
set_option maxRecDepth 20000 in
theorem gX8_ridgeHides_X8_cross : GoodIn wsX8_ridgeHides (va_wsS RX8 176 yX8_cross wsX8_cross) := goodIn_app (goodIn_of _ (by decide +kernel)) ggX8_ridgeHides_X8_cross
theorem dX8_ridgeHides_0 : decode cX8_ridgeHides 0 = .ok (.aload_n 0, 1) := by decide +kernel
theorem dX8_ridgeHides_1 : decode cX8_ridgeHides 1 = .ok (.getfield 19, 3) := by decide +kernel
theorem dX8_ridgeHides_4 : decode cX8_ridgeHides 4 = .ok (.iload_n 3, 1) := by decide +kernel
theorem dX8_ridgeHides_5 : decode cX8_ridgeHides 5 = .ok (.iaload, 1) := by decide +kernel
theorem dX8_ridgeHides_6 : decode cX8_ridgeHides 6 = .ok (.istore 5, 2) := by decide +kernel
theorem dX8_ridgeHides_8 : decode cX8_ridgeHides 8 = .ok (.aload_n 0, 1) := by decide +kernel
theorem dX8_ridgeHides_9 : decode cX8_ridgeHides 9 = .ok (.getfield 22, 3) := by decide +kernel
theorem dX8_ridgeHides_12 : decode cX8_ridgeHides 12 = .ok (.iload_n 3, 1) := by decide +kernel
theorem dX8_ridgeHides_13 : decode cX8_ridgeHides 13 = .ok (.iaload, 1) := by decide +kernel
theorem dX8_ridgeHides_14 : decode cX8_ridgeHides 14 = .ok (.istore 6, 2) := by decide +kernel
theorem dX8_ridgeHides_16 : decode cX8_ridgeHides 16 = .ok (.aload_n 0, 1) := by decide +kernel
theorem dX8_ridgeHides_17 : decode cX8_ridgeHides 17 = .ok (.getfield 7, 3) := by decide +kernel
theorem dX8_ridgeHides_20 : decode cX8_ridgeHides 20 = .ok (.iload 4, 2) := by decide +kernel
theorem dX8_ridgeHides_22 : decode cX8_ridgeHides 22 = .ok (.iaload, 1) := by decide +kernel
theorem dX8_ridgeHides_23 : decode cX8_ridgeHides 23 = .ok (.iload_n 1, 1) := by decide +kernel
theorem dX8_ridgeHides_24 : decode cX8_ridgeHides 24 = .ok (.isub, 1) := by decide +kernel
theorem dX8_ridgeHides_25 : decode cX8_ridgeHides 25 = .ok (.istore 7, 2) := by decide +kernel
theorem dX8_ridgeHides_27 : decode cX8_ridgeHides 27 = .ok (.aload_n 0, 1) := by decide +kernel
theorem dX8_ridgeHides_28 : decode cX8_ridgeHides 28 = .ok (.getfield 13, 3) := by decide +kernel
theorem dX8_ridgeHides_31 : decode cX8_ridgeHides 31 = .ok (.iload 4, 2) := by decide +kernel
theorem dX8_ridgeHides_33 : decode cX8_ridgeHides 33 = .ok (.iaload, 1) := by decide +kernel
theorem dX8_ridgeHides_34 : decode cX8_ridgeHides 34 = .ok (.iload_n 2, 1) := by decide +kernel
theorem dX8_ridgeHides_35 : decode cX8_ridgeHides 35 = .ok (.isub, 1) := by decide +kernel
theorem dX8_ridgeHides_36 : decode cX8_ridgeHides 36 = .ok (.istore 8, 2) := by decide +kernel
theorem dX8_ridgeHides_38 : decode cX8_ridgeHides 38 = .ok (.aload_n 0, 1) := by decide +kernel
theorem dX8_ridgeHides_39 : decode cX8_ridgeHides 39 = .ok (.getfield 7, 3) := by decide +kernel
theorem dX8_ridgeHides_42 : decode cX8_ridgeHides 42 = .ok (.iload 6, 2) := by decide +kernel
theorem dX8_ridgeHides_44 : decode cX8_ridgeHides 44 = .ok (.iaload, 1) := by decide +kernel
theorem dX8_ridgeHides_45 : decode cX8_ridgeHides 45 = .ok (.aload_n 0, 1) := by decide +kernel
theorem dX8_ridgeHides_46 : decode cX8_ridgeHides 46 = .ok (.getfield 7, 3) := by decide +kernel
theorem dX8_ridgeHides_49 : decode cX8_ridgeHides 49 = .ok (.iload 5, 2) := by decide +kernel
theorem dX8_ridgeHides_51 : decode cX8_ridgeHides 51 = .ok (.iaload, 1) := by decide +kernel
theorem dX8_ridgeHides_52 : decode cX8_ridgeHides 52 = .ok (.isub, 1) := by decide +kernel
theorem dX8_ridgeHides_53 : decode cX8_ridgeHides 53 = .ok (.istore 9, 2) := by decide +kernel
theorem dX8_ridgeHides_55 : decode cX8_ridgeHides 55 = .ok (.aload_n 0, 1) := by decide +kernel
theorem dX8_ridgeHides_56 : decode cX8_ridgeHides 56 = .ok (.getfield 13, 3) := by decide +kernel
theorem dX8_ridgeHides_59 : decode cX8_ridgeHides 59 = .ok (.iload 6, 2) := by decide +kernel
theorem dX8_ridgeHides_61 : decode cX8_ridgeHides 61 = .ok (.iaload, 1) := by decide +kernel
theorem dX8_ridgeHides_62 : decode cX8_ridgeHides 62 = .ok (.aload_n 0, 1) := by decide +kernel
theorem dX8_ridgeHides_63 : decode cX8_ridgeHides 63 = .ok (.getfield 13, 3) := by decide +kernel
theorem dX8_ridgeHides_66 : decode cX8_ridgeHides 66 = .ok (.iload 5, 2) := by decide +kernel
theorem dX8_ridgeHides_68 : decode cX8_ridgeHides 68 = .ok (.iaload, 1) := by decide +kernel
theorem dX8_ridgeHides_69 : decode cX8_ridgeHides 69 = .ok (.isub, 1) := by decide +kernel
theorem dX8_ridgeHides_70 : decode cX8_ridgeHides 70 = .ok (.istore 10, 2) := by decide +kernel
theorem dX8_ridgeHides_72 : decode cX8_ridgeHides 72 = .ok (.iload 7, 2) := by decide +kernel
theorem dX8_ridgeHides_74 : decode cX8_ridgeHides 74 = .ok (.iload 8, 2) := by decide +kernel
theorem dX8_ridgeHides_76 : decode cX8_ridgeHides 76 = .ok (.iload 9, 2) := by decide +kernel
theorem dX8_ridgeHides_78 : decode cX8_ridgeHides 78 = .ok (.iload 10, 2) := by decide +kernel
theorem dX8_ridgeHides_80 : decode cX8_ridgeHides 80 = .ok (.invokestatic 176, 3) := by decide +kernel
theorem dX8_ridgeHides_83 : decode cX8_ridgeHides 83 = .ok (.istore 11, 2) := by decide +kernel
theorem dX8_ridgeHides_85 : decode cX8_ridgeHides 85 = .ok (.iload 11, 2) := by decide +kernel
theorem dX8_ridgeHides_87 : decode cX8_ridgeHides 87 = .ok (.ifCond .ne 5, 3) := by decide +kernel
theorem dX8_ridgeHides_90 : decode cX8_ridgeHides 90 = .ok (.iconst 0, 1) := by decide +kernel
theorem dX8_ridgeHides_91 : decode cX8_ridgeHides 91 = .ok (.ireturn, 1) := by decide +kernel
theorem dX8_ridgeHides_92 : decode cX8_ridgeHides 92 = .ok (.iload 11, 2) := by decide +kernel
theorem dX8_ridgeHides_94 : decode cX8_ridgeHides 94 = .ok (.ifCond .ge 7, 3) := by decide +kernel
theorem dX8_ridgeHides_97 : decode cX8_ridgeHides 97 = .ok (.iconst (-1), 1) := by decide +kernel
theorem dX8_ridgeHides_98 : decode cX8_ridgeHides 98 = .ok (.goto 4, 3) := by decide +kernel
theorem dX8_ridgeHides_101 : decode cX8_ridgeHides 101 = .ok (.iconst 1, 1) := by decide +kernel
theorem dX8_ridgeHides_102 : decode cX8_ridgeHides 102 = .ok (.istore 12, 2) := by decide +kernel
theorem dX8_ridgeHides_104 : decode cX8_ridgeHides 104 = .ok (.iload 12, 2) := by decide +kernel
theorem dX8_ridgeHides_106 : decode cX8_ridgeHides 106 = .ok (.aload_n 0, 1) := by decide +kernel
theorem dX8_ridgeHides_107 : decode cX8_ridgeHides 107 = .ok (.getfield 7, 3) := by decide +kernel
theorem dX8_ridgeHides_110 : decode cX8_ridgeHides 110 = .ok (.iload 5, 2) := by decide +kernel
theorem dX8_ridgeHides_112 : decode cX8_ridgeHides 112 = .ok (.iaload, 1) := by decide +kernel
theorem dX8_ridgeHides_113 : decode cX8_ridgeHides 113 = .ok (.iload_n 1, 1) := by decide +kernel
theorem dX8_ridgeHides_114 : decode cX8_ridgeHides 114 = .ok (.isub, 1) := by decide +kernel
theorem dX8_ridgeHides_115 : decode cX8_ridgeHides 115 = .ok (.aload_n 0, 1) := by decide +kernel
theorem dX8_ridgeHides_116 : decode cX8_ridgeHides 116 = .ok (.getfield 13, 3) := by decide +kernel
theorem dX8_ridgeHides_119 : decode cX8_ridgeHides 119 = .ok (.iload 5, 2) := by decide +kernel
theorem dX8_ridgeHides_121 : decode cX8_ridgeHides 121 = .ok (.iaload, 1) := by decide +kernel
theorem dX8_ridgeHides_122 : decode cX8_ridgeHides 122 = .ok (.iload_n 2, 1) := by decide +kernel
theorem dX8_ridgeHides_123 : decode cX8_ridgeHides 123 = .ok (.isub, 1) := by decide +kernel
theorem dX8_ridgeHides_124 : decode cX8_ridgeHides 124 = .ok (.iload 9, 2) := by decide +kernel
theorem dX8_ridgeHides_126 : decode cX8_ridgeHides 126 = .ok (.iload 10, 2) := by decide +kernel
theorem dX8_ridgeHides_128 : decode cX8_ridgeHides 128 = .ok (.invokestatic 176, 3) := by decide +kernel
theorem dX8_ridgeHides_131 : decode cX8_ridgeHides 131 = .ok (.imul, 1) := by decide +kernel
theorem dX8_ridgeHides_132 : decode cX8_ridgeHides 132 = .ok (.istore 13, 2) := by decide +kernel
theorem dX8_ridgeHides_134 : decode cX8_ridgeHides 134 = .ok (.iload 12, 2) := by decide +kernel
theorem dX8_ridgeHides_136 : decode cX8_ridgeHides 136 = .ok (.aload_n 0, 1) := by decide +kernel
theorem dX8_ridgeHides_137 : decode cX8_ridgeHides 137 = .ok (.getfield 7, 3) := by decide +kernel
theorem dX8_ridgeHides_140 : decode cX8_ridgeHides 140 = .ok (.iload 5, 2) := by decide +kernel
theorem dX8_ridgeHides_142 : decode cX8_ridgeHides 142 = .ok (.iaload, 1) := by decide +kernel
theorem dX8_ridgeHides_143 : decode cX8_ridgeHides 143 = .ok (.iload_n 1, 1) := by decide +kernel
theorem dX8_ridgeHides_144 : decode cX8_ridgeHides 144 = .ok (.isub, 1) := by decide +kernel
theorem dX8_ridgeHides_145 : decode cX8_ridgeHides 145 = .ok (.aload_n 0, 1) := by decide +kernel
theorem dX8_ridgeHides_146 : decode cX8_ridgeHides 146 = .ok (.getfield 13, 3) := by decide +kernel
theorem dX8_ridgeHides_149 : decode cX8_ridgeHides 149 = .ok (.iload 5, 2) := by decide +kernel
theorem dX8_ridgeHides_151 : decode cX8_ridgeHides 151 = .ok (.iaload, 1) := by decide +kernel
theorem dX8_ridgeHides_152 : decode cX8_ridgeHides 152 = .ok (.iload_n 2, 1) := by decide +kernel
theorem dX8_ridgeHides_153 : decode cX8_ridgeHides 153 = .ok (.isub, 1) := by decide +kernel
theorem dX8_ridgeHides_154 : decode cX8_ridgeHides 154 = .ok (.iload 7, 2) := by decide +kernel
theorem dX8_ridgeHides_156 : decode cX8_ridgeHides 156 = .ok (.iload 8, 2) := by decide +kernel
theorem dX8_ridgeHides_158 : decode cX8_ridgeHides 158 = .ok (.invokestatic 176, 3) := by decide +kernel
theorem dX8_ridgeHides_161 : decode cX8_ridgeHides 161 = .ok (.imul, 1) := by decide +kernel
theorem dX8_ridgeHides_162 : decode cX8_ridgeHides 162 = .ok (.istore 14, 2) := by decide +kernel
theorem dX8_ridgeHides_164 : decode cX8_ridgeHides 164 = .ok (.iload 11, 2) := by decide +kernel
theorem dX8_ridgeHides_166 : decode cX8_ridgeHides 166 = .ok (.iload 12, 2) := by decide +kernel
theorem dX8_ridgeHides_168 : decode cX8_ridgeHides 168 = .ok (.imul, 1) := by decide +kernel
theorem dX8_ridgeHides_169 : decode cX8_ridgeHides 169 = .ok (.istore 11, 2) := by decide +kernel
theorem dX8_ridgeHides_171 : decode cX8_ridgeHides 171 = .ok (.iload 13, 2) := by decide +kernel
theorem dX8_ridgeHides_173 : decode cX8_ridgeHides 173 = .ok (.ifCond .le 22, 3) := by decide +kernel
theorem dX8_ridgeHides_176 : decode cX8_ridgeHides 176 = .ok (.iload 13, 2) := by decide +kernel
theorem dX8_ridgeHides_178 : decode cX8_ridgeHides 178 = .ok (.iload 11, 2) := by decide +kernel
theorem dX8_ridgeHides_180 : decode cX8_ridgeHides 180 = .ok (.if_icmp .ge 15, 3) := by decide +kernel
theorem dX8_ridgeHides_183 : decode cX8_ridgeHides 183 = .ok (.iload 14, 2) := by decide +kernel
theorem dX8_ridgeHides_185 : decode cX8_ridgeHides 185 = .ok (.ifCond .lt 10, 3) := by decide +kernel
theorem dX8_ridgeHides_188 : decode cX8_ridgeHides 188 = .ok (.iload 14, 2) := by decide +kernel
theorem dX8_ridgeHides_190 : decode cX8_ridgeHides 190 = .ok (.iload 11, 2) := by decide +kernel
theorem dX8_ridgeHides_192 : decode cX8_ridgeHides 192 = .ok (.if_icmp .le 5, 3) := by decide +kernel
theorem dX8_ridgeHides_195 : decode cX8_ridgeHides 195 = .ok (.iconst 0, 1) := by decide +kernel
theorem dX8_ridgeHides_196 : decode cX8_ridgeHides 196 = .ok (.ireturn, 1) := by decide +kernel
theorem dX8_ridgeHides_197 : decode cX8_ridgeHides 197 = .ok (.aload_n 0, 1) := by decide +kernel
theorem dX8_ridgeHides_198 : decode cX8_ridgeHides 198 = .ok (.getfield 16, 3) := by decide +kernel
theorem dX8_ridgeHides_201 : decode cX8_ridgeHides 201 = .ok (.iload 5, 2) := by decide +kernel
theorem dX8_ridgeHides_203 : decode cX8_ridgeHides 203 = .ok (.iaload, 1) := by decide +kernel
theorem dX8_ridgeHides_204 : decode cX8_ridgeHides 204 = .ok (.iload 11, 2) := by decide +kernel
theorem dX8_ridgeHides_206 : decode cX8_ridgeHides 206 = .ok (.imul, 1) := by decide +kernel
theorem dX8_ridgeHides_207 : decode cX8_ridgeHides 207 = .ok (.iload 14, 2) := by decide +kernel
theorem dX8_ridgeHides_209 : decode cX8_ridgeHides 209 = .ok (.aload_n 0, 1) := by decide +kernel
theorem dX8_ridgeHides_210 : decode cX8_ridgeHides 210 = .ok (.getfield 16, 3) := by decide +kernel
theorem dX8_ridgeHides_213 : decode cX8_ridgeHides 213 = .ok (.iload 6, 2) := by decide +kernel
theorem dX8_ridgeHides_215 : decode cX8_ridgeHides 215 = .ok (.iaload, 1) := by decide +kernel
theorem dX8_ridgeHides_216 : decode cX8_ridgeHides 216 = .ok (.aload_n 0, 1) := by decide +kernel
theorem dX8_ridgeHides_217 : decode cX8_ridgeHides 217 = .ok (.getfield 16, 3) := by decide +kernel
theorem dX8_ridgeHides_220 : decode cX8_ridgeHides 220 = .ok (.iload 5, 2) := by decide +kernel
theorem dX8_ridgeHides_222 : decode cX8_ridgeHides 222 = .ok (.iaload, 1) := by decide +kernel
theorem dX8_ridgeHides_223 : decode cX8_ridgeHides 223 = .ok (.isub, 1) := by decide +kernel
theorem dX8_ridgeHides_224 : decode cX8_ridgeHides 224 = .ok (.imul, 1) := by decide +kernel
theorem dX8_ridgeHides_225 : decode cX8_ridgeHides 225 = .ok (.iadd, 1) := by decide +kernel
theorem dX8_ridgeHides_226 : decode cX8_ridgeHides 226 = .ok (.aload_n 0, 1) := by decide +kernel
theorem dX8_ridgeHides_227 : decode cX8_ridgeHides 227 = .ok (.getfield 16, 3) := by decide +kernel
theorem dX8_ridgeHides_230 : decode cX8_ridgeHides 230 = .ok (.iload 4, 2) := by decide +kernel
theorem dX8_ridgeHides_232 : decode cX8_ridgeHides 232 = .ok (.iaload, 1) := by decide +kernel
theorem dX8_ridgeHides_233 : decode cX8_ridgeHides 233 = .ok (.iload 13, 2) := by decide +kernel
theorem dX8_ridgeHides_235 : decode cX8_ridgeHides 235 = .ok (.imul, 1) := by decide +kernel
theorem dX8_ridgeHides_236 : decode cX8_ridgeHides 236 = .ok (.if_icmp .lt 7, 3) := by decide +kernel
theorem dX8_ridgeHides_239 : decode cX8_ridgeHides 239 = .ok (.iconst 1, 1) := by decide +kernel
theorem dX8_ridgeHides_240 : decode cX8_ridgeHides 240 = .ok (.goto 4, 3) := by decide +kernel
theorem dX8_ridgeHides_243 : decode cX8_ridgeHides 243 = .ok (.iconst 0, 1) := by decide +kernel
theorem dX8_ridgeHides_244 : decode cX8_ridgeHides 244 = .ok (.ireturn, 1) := by decide +kernel
set_option maxRecDepth 20000 in
theorem ggX8_isSeen_X8_hides : GoodIn wsX8_isSeen wsX8_hides := goodIn_r _ [7, 8, 9, 10, 11, 12, 6, 13, 14, 15, 16, 17, 18, 19, 26, 27, 28, 29, 30, 31, 32, 33, 34, 35, 36, 37, 38, 39, 40, 41, 42, 43, 44, 45, 46, 47, 48, 49, 50, 51, 52, 53, 54, 55, 56, 57, 58, 59, 60, 61, 62, 63, 64, 65, 66, 67, 68, 69] (by decide +kernel) (by decide +kernel)
set_option maxRecDepth 20000 in
theorem gX8_isSeen_X8_hides : GoodIn wsX8_isSeen (wsV RX8 184 RX8 yX8_hides wsX8_hides) := goodIn_app (goodIn_of _ (by decide +kernel)) ggX8_isSeen_X8_hides
set_option maxRecDepth 20000 in
theorem ggX8_isSeen_X8_ridgeHides : GoodIn wsX8_isSeen wsX8_ridgeHides := goodIn_r _ [23, 24, 25, 8, 9, 10, 11, 12, 6, 13, 26, 27, 28, 29, 30, 31, 32, 33, 34, 35, 36, 37, 38, 39, 40, 41, 42, 43, 44, 45, 46, 47, 48, 49, 50, 51, 52, 53, 54, 55, 56, 57, 58, 59, 60, 61, 62, 63, 64, 65, 66, 67, 68, 69] (by decide +kernel) (by decide +kernel)
set_option maxRecDepth 20000 in
theorem gX8_isSeen_X8_ridgeHides : GoodIn wsX8_isSeen (wsV RX8 188 RX8 yX8_ridgeHides wsX8_ridgeHides) := goodIn_app (goodIn_of _ (by decide +kernel)) ggX8_isSeen_X8_ridgeHides
theorem dX8_isSeen_0 : decode cX8_isSeen 0 = .ok (.iconst 0, 1) := by decide +kernel
theorem dX8_isSeen_1 : decode cX8_isSeen 1 = .ok (.istore 4, 2) := by decide +kernel
theorem dX8_isSeen_3 : decode cX8_isSeen 3 = .ok (.iload 4, 2) := by decide +kernel
theorem dX8_isSeen_5 : decode cX8_isSeen 5 = .ok (.aload_n 0, 1) := by decide +kernel
theorem dX8_isSeen_6 : decode cX8_isSeen 6 = .ok (.getfield 102, 3) := by decide +kernel
theorem dX8_isSeen_9 : decode cX8_isSeen 9 = .ok (.if_icmp .ge 23, 3) := by decide +kernel
theorem dX8_isSeen_12 : decode cX8_isSeen 12 = .ok (.aload_n 0, 1) := by decide +kernel
theorem dX8_isSeen_13 : decode cX8_isSeen 13 = .ok (.iload_n 1, 1) := by decide +kernel
theorem dX8_isSeen_14 : decode cX8_isSeen 14 = .ok (.iload_n 2, 1) := by decide +kernel
theorem dX8_isSeen_15 : decode cX8_isSeen 15 = .ok (.iload 4, 2) := by decide +kernel
theorem dX8_isSeen_17 : decode cX8_isSeen 17 = .ok (.iload_n 3, 1) := by decide +kernel
theorem dX8_isSeen_18 : decode cX8_isSeen 18 = .ok (.invokevirtual 184, 3) := by decide +kernel
theorem dX8_isSeen_21 : decode cX8_isSeen 21 = .ok (.ifCond .eq 5, 3) := by decide +kernel
theorem dX8_isSeen_24 : decode cX8_isSeen 24 = .ok (.iconst 0, 1) := by decide +kernel
theorem dX8_isSeen_25 : decode cX8_isSeen 25 = .ok (.ireturn, 1) := by decide +kernel
theorem dX8_isSeen_26 : decode cX8_isSeen 26 = .ok (.iinc 4 1, 3) := by decide +kernel
theorem dX8_isSeen_29 : decode cX8_isSeen 29 = .ok (.goto (-26), 3) := by decide +kernel
theorem dX8_isSeen_32 : decode cX8_isSeen 32 = .ok (.iconst 0, 1) := by decide +kernel
theorem dX8_isSeen_33 : decode cX8_isSeen 33 = .ok (.istore 4, 2) := by decide +kernel
theorem dX8_isSeen_35 : decode cX8_isSeen 35 = .ok (.iload 4, 2) := by decide +kernel
theorem dX8_isSeen_37 : decode cX8_isSeen 37 = .ok (.aload_n 0, 1) := by decide +kernel
theorem dX8_isSeen_38 : decode cX8_isSeen 38 = .ok (.getfield 151, 3) := by decide +kernel
theorem dX8_isSeen_41 : decode cX8_isSeen 41 = .ok (.if_icmp .ge 23, 3) := by decide +kernel
theorem dX8_isSeen_44 : decode cX8_isSeen 44 = .ok (.aload_n 0, 1) := by decide +kernel
theorem dX8_isSeen_45 : decode cX8_isSeen 45 = .ok (.iload_n 1, 1) := by decide +kernel
theorem dX8_isSeen_46 : decode cX8_isSeen 46 = .ok (.iload_n 2, 1) := by decide +kernel
theorem dX8_isSeen_47 : decode cX8_isSeen 47 = .ok (.iload 4, 2) := by decide +kernel
theorem dX8_isSeen_49 : decode cX8_isSeen 49 = .ok (.iload_n 3, 1) := by decide +kernel
theorem dX8_isSeen_50 : decode cX8_isSeen 50 = .ok (.invokevirtual 188, 3) := by decide +kernel
theorem dX8_isSeen_53 : decode cX8_isSeen 53 = .ok (.ifCond .eq 5, 3) := by decide +kernel
theorem dX8_isSeen_56 : decode cX8_isSeen 56 = .ok (.iconst 0, 1) := by decide +kernel
theorem dX8_isSeen_57 : decode cX8_isSeen 57 = .ok (.ireturn, 1) := by decide +kernel
theorem dX8_isSeen_58 : decode cX8_isSeen 58 = .ok (.iinc 4 1, 3) := by decide +kernel
theorem dX8_isSeen_61 : decode cX8_isSeen 61 = .ok (.goto (-26), 3) := by decide +kernel
theorem dX8_isSeen_64 : decode cX8_isSeen 64 = .ok (.iconst 1, 1) := by decide +kernel
theorem dX8_isSeen_65 : decode cX8_isSeen 65 = .ok (.ireturn, 1) := by decide +kernel
set_option maxRecDepth 20000 in
theorem ggX8_lower_X8_size : GoodIn wsX8_lower wsX8_size := goodIn_r _ [4] (by decide +kernel) (by decide +kernel)
set_option maxRecDepth 20000 in
theorem gX8_lower_X8_size : GoodIn wsX8_lower (va_wsS RX8 172 yX8_size wsX8_size) := goodIn_app (goodIn_of _ (by decide +kernel)) ggX8_lower_X8_size
theorem dX8_lower_0 : decode cX8_lower 0 = .ok (.iload_n 1, 1) := by decide +kernel
theorem dX8_lower_1 : decode cX8_lower 1 = .ok (.ifCond .ge 8, 3) := by decide +kernel
theorem dX8_lower_4 : decode cX8_lower 4 = .ok (.iload_n 0, 1) := by decide +kernel
theorem dX8_lower_5 : decode cX8_lower 5 = .ok (.ineg, 1) := by decide +kernel
theorem dX8_lower_6 : decode cX8_lower 6 = .ok (.goto 4, 3) := by decide +kernel
theorem dX8_lower_9 : decode cX8_lower 9 = .ok (.iload_n 0, 1) := by decide +kernel
theorem dX8_lower_10 : decode cX8_lower 10 = .ok (.istore_n 2, 1) := by decide +kernel
theorem dX8_lower_11 : decode cX8_lower 11 = .ok (.iload_n 1, 1) := by decide +kernel
theorem dX8_lower_12 : decode cX8_lower 12 = .ok (.invokestatic 172, 3) := by decide +kernel
theorem dX8_lower_15 : decode cX8_lower 15 = .ok (.istore_n 3, 1) := by decide +kernel
theorem dX8_lower_16 : decode cX8_lower 16 = .ok (.iload_n 2, 1) := by decide +kernel
theorem dX8_lower_17 : decode cX8_lower 17 = .ok (.ifCond .lt 9, 3) := by decide +kernel
theorem dX8_lower_20 : decode cX8_lower 20 = .ok (.iload_n 2, 1) := by decide +kernel
theorem dX8_lower_21 : decode cX8_lower 21 = .ok (.iload_n 3, 1) := by decide +kernel
theorem dX8_lower_22 : decode cX8_lower 22 = .ok (.idiv, 1) := by decide +kernel
theorem dX8_lower_23 : decode cX8_lower 23 = .ok (.goto 11, 3) := by decide +kernel
theorem dX8_lower_26 : decode cX8_lower 26 = .ok (.iload_n 3, 1) := by decide +kernel
theorem dX8_lower_27 : decode cX8_lower 27 = .ok (.iconst 1, 1) := by decide +kernel
theorem dX8_lower_28 : decode cX8_lower 28 = .ok (.isub, 1) := by decide +kernel
theorem dX8_lower_29 : decode cX8_lower 29 = .ok (.iload_n 2, 1) := by decide +kernel
theorem dX8_lower_30 : decode cX8_lower 30 = .ok (.isub, 1) := by decide +kernel
theorem dX8_lower_31 : decode cX8_lower 31 = .ok (.iload_n 3, 1) := by decide +kernel
theorem dX8_lower_32 : decode cX8_lower 32 = .ok (.idiv, 1) := by decide +kernel
theorem dX8_lower_33 : decode cX8_lower 33 = .ok (.ineg, 1) := by decide +kernel
theorem dX8_lower_34 : decode cX8_lower 34 = .ok (.ireturn, 1) := by decide +kernel
set_option maxRecDepth 20000 in
theorem ggX8_bearingOf_X8_size : GoodIn wsX8_bearingOf wsX8_size := goodIn_r _ [4] (by decide +kernel) (by decide +kernel)
set_option maxRecDepth 20000 in
theorem gX8_bearingOf_X8_size : GoodIn wsX8_bearingOf (va_wsS RX8 172 yX8_size wsX8_size) := goodIn_app (goodIn_of _ (by decide +kernel)) ggX8_bearingOf_X8_size
set_option maxRecDepth 20000 in
theorem ggX8_bearingOf_X8_lower : GoodIn wsX8_bearingOf wsX8_lower := goodIn_r _ [7, 1, 2, 3, 4] (by decide +kernel) (by decide +kernel)
set_option maxRecDepth 20000 in
theorem gX8_bearingOf_X8_lower : GoodIn wsX8_bearingOf (va_wsS RX8 191 yX8_lower wsX8_lower) := goodIn_app (goodIn_of _ (by decide +kernel)) ggX8_bearingOf_X8_lower
theorem dX8_bearingOf_0 : decode cX8_bearingOf 0 = .ok (.iload_n 0, 1) := by decide +kernel
theorem dX8_bearingOf_1 : decode cX8_bearingOf 1 = .ok (.invokestatic 172, 3) := by decide +kernel
theorem dX8_bearingOf_4 : decode cX8_bearingOf 4 = .ok (.iload_n 1, 1) := by decide +kernel
theorem dX8_bearingOf_5 : decode cX8_bearingOf 5 = .ok (.invokestatic 172, 3) := by decide +kernel
theorem dX8_bearingOf_8 : decode cX8_bearingOf 8 = .ok (.if_icmp .lt 25, 3) := by decide +kernel
theorem dX8_bearingOf_11 : decode cX8_bearingOf 11 = .ok (.bipush 8, 2) := by decide +kernel
theorem dX8_bearingOf_13 : decode cX8_bearingOf 13 = .ok (.iload_n 1, 1) := by decide +kernel
theorem dX8_bearingOf_14 : decode cX8_bearingOf 14 = .ok (.imul, 1) := by decide +kernel
theorem dX8_bearingOf_15 : decode cX8_bearingOf 15 = .ok (.iload_n 0, 1) := by decide +kernel
theorem dX8_bearingOf_16 : decode cX8_bearingOf 16 = .ok (.invokestatic 191, 3) := by decide +kernel
theorem dX8_bearingOf_19 : decode cX8_bearingOf 19 = .ok (.iload_n 0, 1) := by decide +kernel
theorem dX8_bearingOf_20 : decode cX8_bearingOf 20 = .ok (.ifCond .ge 8, 3) := by decide +kernel
theorem dX8_bearingOf_23 : decode cX8_bearingOf 23 = .ok (.bipush 32, 2) := by decide +kernel
theorem dX8_bearingOf_25 : decode cX8_bearingOf 25 = .ok (.goto 4, 3) := by decide +kernel
theorem dX8_bearingOf_28 : decode cX8_bearingOf 28 = .ok (.iconst 0, 1) := by decide +kernel
theorem dX8_bearingOf_29 : decode cX8_bearingOf 29 = .ok (.iadd, 1) := by decide +kernel
theorem dX8_bearingOf_30 : decode cX8_bearingOf 30 = .ok (.goto 25, 3) := by decide +kernel
theorem dX8_bearingOf_33 : decode cX8_bearingOf 33 = .ok (.bipush 16, 2) := by decide +kernel
theorem dX8_bearingOf_35 : decode cX8_bearingOf 35 = .ok (.bipush (-8), 2) := by decide +kernel
theorem dX8_bearingOf_37 : decode cX8_bearingOf 37 = .ok (.iload_n 0, 1) := by decide +kernel
theorem dX8_bearingOf_38 : decode cX8_bearingOf 38 = .ok (.imul, 1) := by decide +kernel
theorem dX8_bearingOf_39 : decode cX8_bearingOf 39 = .ok (.iload_n 1, 1) := by decide +kernel
theorem dX8_bearingOf_40 : decode cX8_bearingOf 40 = .ok (.invokestatic 191, 3) := by decide +kernel
theorem dX8_bearingOf_43 : decode cX8_bearingOf 43 = .ok (.iadd, 1) := by decide +kernel
theorem dX8_bearingOf_44 : decode cX8_bearingOf 44 = .ok (.iload_n 1, 1) := by decide +kernel
theorem dX8_bearingOf_45 : decode cX8_bearingOf 45 = .ok (.ifCond .ge 8, 3) := by decide +kernel
theorem dX8_bearingOf_48 : decode cX8_bearingOf 48 = .ok (.bipush 32, 2) := by decide +kernel
theorem dX8_bearingOf_50 : decode cX8_bearingOf 50 = .ok (.goto 4, 3) := by decide +kernel
theorem dX8_bearingOf_53 : decode cX8_bearingOf 53 = .ok (.iconst 0, 1) := by decide +kernel
theorem dX8_bearingOf_54 : decode cX8_bearingOf 54 = .ok (.iadd, 1) := by decide +kernel
theorem dX8_bearingOf_55 : decode cX8_bearingOf 55 = .ok (.istore_n 2, 1) := by decide +kernel
theorem dX8_bearingOf_56 : decode cX8_bearingOf 56 = .ok (.iload_n 2, 1) := by decide +kernel
theorem dX8_bearingOf_57 : decode cX8_bearingOf 57 = .ok (.ifCond .ge 10, 3) := by decide +kernel
theorem dX8_bearingOf_60 : decode cX8_bearingOf 60 = .ok (.iload_n 2, 1) := by decide +kernel
theorem dX8_bearingOf_61 : decode cX8_bearingOf 61 = .ok (.bipush 64, 2) := by decide +kernel
theorem dX8_bearingOf_63 : decode cX8_bearingOf 63 = .ok (.iadd, 1) := by decide +kernel
theorem dX8_bearingOf_64 : decode cX8_bearingOf 64 = .ok (.goto 4, 3) := by decide +kernel
theorem dX8_bearingOf_67 : decode cX8_bearingOf 67 = .ok (.iload_n 2, 1) := by decide +kernel
theorem dX8_bearingOf_68 : decode cX8_bearingOf 68 = .ok (.ireturn, 1) := by decide +kernel
set_option maxRecDepth 20000 in
theorem ggX8_laysPlaces_X8_isSeen : GoodIn wsX8_laysPlaces wsX8_isSeen := goodIn_r _ [13, 2, 14, 15, 16, 17, 12, 18, 3, 4, 8, 19, 20, 21, 22, 23, 24, 25, 26, 27, 28, 29, 30, 31, 32, 33, 40, 41, 42, 43, 44, 45, 46, 47, 48, 49, 50, 51, 52, 53, 54, 55, 56, 57, 58, 59, 60, 61, 62, 63, 64, 65, 66, 67, 68, 69, 70, 71, 72, 73, 74, 75, 76, 77, 78, 79, 80, 81, 82, 83] (by decide +kernel) (by decide +kernel)
set_option maxRecDepth 20000 in
theorem gX8_laysPlaces_X8_isSeen : GoodIn wsX8_laysPlaces (wsV RX8 194 RX8 yX8_isSeen wsX8_isSeen) := goodIn_app (goodIn_of _ (by decide +kernel)) ggX8_laysPlaces_X8_isSeen
set_option maxRecDepth 20000 in
theorem ggX8_laysPlaces_X8_bearingOf : GoodIn wsX8_laysPlaces wsX8_bearingOf := goodIn_r _ [36, 25, 26, 12, 27, 37, 38, 39] (by decide +kernel) (by decide +kernel)
set_option maxRecDepth 20000 in
theorem gX8_laysPlaces_X8_bearingOf : GoodIn wsX8_laysPlaces (va_wsS RX8 197 yX8_bearingOf wsX8_bearingOf) := goodIn_app (goodIn_of _ (by decide +kernel)) ggX8_laysPlaces_X8_bearingOf
set_option maxRecDepth 20000 in
theorem ggX8_laysPlaces_X8_way : GoodIn wsX8_laysPlaces wsX8_way := goodIn_r _ [24, 25, 26, 12, 27] (by decide +kernel) (by decide +kernel)
set_option maxRecDepth 20000 in
theorem gX8_laysPlaces_X8_way : GoodIn wsX8_laysPlaces (va_wsS RX8 180 yX8_way wsX8_way) := goodIn_app (goodIn_of _ (by decide +kernel)) ggX8_laysPlaces_X8_way
theorem dX8_laysPlaces_0 : decode cX8_laysPlaces 0 = .ok (.iconst 0, 1) := by decide +kernel
theorem dX8_laysPlaces_1 : decode cX8_laysPlaces 1 = .ok (.istore_n 1, 1) := by decide +kernel
theorem dX8_laysPlaces_2 : decode cX8_laysPlaces 2 = .ok (.iload_n 1, 1) := by decide +kernel
theorem dX8_laysPlaces_3 : decode cX8_laysPlaces 3 = .ok (.bipush 64, 2) := by decide +kernel
theorem dX8_laysPlaces_5 : decode cX8_laysPlaces 5 = .ok (.if_icmp .ge 225, 3) := by decide +kernel
theorem dX8_laysPlaces_8 : decode cX8_laysPlaces 8 = .ok (.iload_n 1, 1) := by decide +kernel
theorem dX8_laysPlaces_9 : decode cX8_laysPlaces 9 = .ok (.bipush 8, 2) := by decide +kernel
theorem dX8_laysPlaces_11 : decode cX8_laysPlaces 11 = .ok (.idiv, 1) := by decide +kernel
theorem dX8_laysPlaces_12 : decode cX8_laysPlaces 12 = .ok (.istore_n 2, 1) := by decide +kernel
theorem dX8_laysPlaces_13 : decode cX8_laysPlaces 13 = .ok (.iload_n 1, 1) := by decide +kernel
theorem dX8_laysPlaces_14 : decode cX8_laysPlaces 14 = .ok (.bipush 8, 2) := by decide +kernel
theorem dX8_laysPlaces_16 : decode cX8_laysPlaces 16 = .ok (.irem, 1) := by decide +kernel
theorem dX8_laysPlaces_17 : decode cX8_laysPlaces 17 = .ok (.istore_n 3, 1) := by decide +kernel
theorem dX8_laysPlaces_18 : decode cX8_laysPlaces 18 = .ok (.aload_n 0, 1) := by decide +kernel
theorem dX8_laysPlaces_19 : decode cX8_laysPlaces 19 = .ok (.getfield 25, 3) := by decide +kernel
theorem dX8_laysPlaces_22 : decode cX8_laysPlaces 22 = .ok (.iload_n 1, 1) := by decide +kernel
theorem dX8_laysPlaces_23 : decode cX8_laysPlaces 23 = .ok (.iconst 1, 1) := by decide +kernel
theorem dX8_laysPlaces_24 : decode cX8_laysPlaces 24 = .ok (.bastore, 1) := by decide +kernel
theorem dX8_laysPlaces_25 : decode cX8_laysPlaces 25 = .ok (.iconst 0, 1) := by decide +kernel
theorem dX8_laysPlaces_26 : decode cX8_laysPlaces 26 = .ok (.istore 4, 2) := by decide +kernel
theorem dX8_laysPlaces_28 : decode cX8_laysPlaces 28 = .ok (.iload 4, 2) := by decide +kernel
theorem dX8_laysPlaces_30 : decode cX8_laysPlaces 30 = .ok (.aload_n 0, 1) := by decide +kernel
theorem dX8_laysPlaces_31 : decode cX8_laysPlaces 31 = .ok (.getfield 102, 3) := by decide +kernel
theorem dX8_laysPlaces_34 : decode cX8_laysPlaces 34 = .ok (.if_icmp .ge 51, 3) := by decide +kernel
theorem dX8_laysPlaces_37 : decode cX8_laysPlaces 37 = .ok (.aload_n 0, 1) := by decide +kernel
theorem dX8_laysPlaces_38 : decode cX8_laysPlaces 38 = .ok (.getfield 25, 3) := by decide +kernel
theorem dX8_laysPlaces_41 : decode cX8_laysPlaces 41 = .ok (.iload_n 1, 1) := by decide +kernel
theorem dX8_laysPlaces_42 : decode cX8_laysPlaces 42 = .ok (.aload_n 0, 1) := by decide +kernel
theorem dX8_laysPlaces_43 : decode cX8_laysPlaces 43 = .ok (.getfield 25, 3) := by decide +kernel
theorem dX8_laysPlaces_46 : decode cX8_laysPlaces 46 = .ok (.iload_n 1, 1) := by decide +kernel
theorem dX8_laysPlaces_47 : decode cX8_laysPlaces 47 = .ok (.baload, 1) := by decide +kernel
theorem dX8_laysPlaces_48 : decode cX8_laysPlaces 48 = .ok (.ifCond .eq 29, 3) := by decide +kernel
theorem dX8_laysPlaces_51 : decode cX8_laysPlaces 51 = .ok (.aload_n 0, 1) := by decide +kernel
theorem dX8_laysPlaces_52 : decode cX8_laysPlaces 52 = .ok (.getfield 7, 3) := by decide +kernel
theorem dX8_laysPlaces_55 : decode cX8_laysPlaces 55 = .ok (.iload 4, 2) := by decide +kernel
theorem dX8_laysPlaces_57 : decode cX8_laysPlaces 57 = .ok (.iaload, 1) := by decide +kernel
theorem dX8_laysPlaces_58 : decode cX8_laysPlaces 58 = .ok (.iload_n 2, 1) := by decide +kernel
theorem dX8_laysPlaces_59 : decode cX8_laysPlaces 59 = .ok (.if_icmp .ne 14, 3) := by decide +kernel
theorem dX8_laysPlaces_62 : decode cX8_laysPlaces 62 = .ok (.aload_n 0, 1) := by decide +kernel
