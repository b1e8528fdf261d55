theorem dX8_laysPlaces_63 : decode cX8_laysPlaces 63 = .ok (.getfield 13, 3) := by decide +kernel
theorem dX8_laysPlaces_66 : decode cX8_laysPlaces 66 = .ok (.iload 4, 2) := by decide +kernel
theorem dX8_laysPlaces_68 : decode cX8_laysPlaces 68 = .ok (.iaload, 1) := by decide +kernel
theorem dX8_laysPlaces_69 : decode cX8_laysPlaces 69 = .ok (.iload_n 3, 1) := by decide +kernel
theorem dX8_laysPlaces_70 : decode cX8_laysPlaces 70 = .ok (.if_icmp .eq 7, 3) := by decide +kernel
theorem dX8_laysPlaces_73 : decode cX8_laysPlaces 73 = .ok (.iconst 1, 1) := by decide +kernel
theorem dX8_laysPlaces_74 : decode cX8_laysPlaces 74 = .ok (.goto 4, 3) := by decide +kernel
theorem dX8_laysPlaces_77 : decode cX8_laysPlaces 77 = .ok (.iconst 0, 1) := by decide +kernel
theorem dX8_laysPlaces_78 : decode cX8_laysPlaces 78 = .ok (.bastore, 1) := by decide +kernel
theorem dX8_laysPlaces_79 : decode cX8_laysPlaces 79 = .ok (.iinc 4 1, 3) := by decide +kernel
theorem dX8_laysPlaces_82 : decode cX8_laysPlaces 82 = .ok (.goto (-54), 3) := by decide +kernel
theorem dX8_laysPlaces_85 : decode cX8_laysPlaces 85 = .ok (.aload_n 0, 1) := by decide +kernel
theorem dX8_laysPlaces_86 : decode cX8_laysPlaces 86 = .ok (.getfield 29, 3) := by decide +kernel
theorem dX8_laysPlaces_89 : decode cX8_laysPlaces 89 = .ok (.iload_n 1, 1) := by decide +kernel
theorem dX8_laysPlaces_90 : decode cX8_laysPlaces 90 = .ok (.iconst 0, 1) := by decide +kernel
theorem dX8_laysPlaces_91 : decode cX8_laysPlaces 91 = .ok (.iastore, 1) := by decide +kernel
theorem dX8_laysPlaces_92 : decode cX8_laysPlaces 92 = .ok (.iconst 0, 1) := by decide +kernel
theorem dX8_laysPlaces_93 : decode cX8_laysPlaces 93 = .ok (.istore 4, 2) := by decide +kernel
theorem dX8_laysPlaces_95 : decode cX8_laysPlaces 95 = .ok (.iload 4, 2) := by decide +kernel
theorem dX8_laysPlaces_97 : decode cX8_laysPlaces 97 = .ok (.aload_n 0, 1) := by decide +kernel
theorem dX8_laysPlaces_98 : decode cX8_laysPlaces 98 = .ok (.getfield 102, 3) := by decide +kernel
theorem dX8_laysPlaces_101 : decode cX8_laysPlaces 101 = .ok (.if_icmp .ge 123, 3) := by decide +kernel
theorem dX8_laysPlaces_104 : decode cX8_laysPlaces 104 = .ok (.aload_n 0, 1) := by decide +kernel
theorem dX8_laysPlaces_105 : decode cX8_laysPlaces 105 = .ok (.getfield 25, 3) := by decide +kernel
theorem dX8_laysPlaces_108 : decode cX8_laysPlaces 108 = .ok (.iload_n 1, 1) := by decide +kernel
theorem dX8_laysPlaces_109 : decode cX8_laysPlaces 109 = .ok (.baload, 1) := by decide +kernel
theorem dX8_laysPlaces_110 : decode cX8_laysPlaces 110 = .ok (.ifCond .eq 114, 3) := by decide +kernel
theorem dX8_laysPlaces_113 : decode cX8_laysPlaces 113 = .ok (.aload_n 0, 1) := by decide +kernel
theorem dX8_laysPlaces_114 : decode cX8_laysPlaces 114 = .ok (.getfield 29, 3) := by decide +kernel
theorem dX8_laysPlaces_117 : decode cX8_laysPlaces 117 = .ok (.iload_n 1, 1) := by decide +kernel
theorem dX8_laysPlaces_118 : decode cX8_laysPlaces 118 = .ok (.dup2, 1) := by decide +kernel
theorem dX8_laysPlaces_119 : decode cX8_laysPlaces 119 = .ok (.iaload, 1) := by decide +kernel
theorem dX8_laysPlaces_120 : decode cX8_laysPlaces 120 = .ok (.aload_n 0, 1) := by decide +kernel
theorem dX8_laysPlaces_121 : decode cX8_laysPlaces 121 = .ok (.iload_n 2, 1) := by decide +kernel
theorem dX8_laysPlaces_122 : decode cX8_laysPlaces 122 = .ok (.iload_n 3, 1) := by decide +kernel
theorem dX8_laysPlaces_123 : decode cX8_laysPlaces 123 = .ok (.iload 4, 2) := by decide +kernel
theorem dX8_laysPlaces_125 : decode cX8_laysPlaces 125 = .ok (.invokevirtual 194, 3) := by decide +kernel
theorem dX8_laysPlaces_128 : decode cX8_laysPlaces 128 = .ok (.ifCond .eq 10, 3) := by decide +kernel
theorem dX8_laysPlaces_131 : decode cX8_laysPlaces 131 = .ok (.iconst 1, 1) := by decide +kernel
theorem dX8_laysPlaces_132 : decode cX8_laysPlaces 132 = .ok (.iload 4, 2) := by decide +kernel
theorem dX8_laysPlaces_134 : decode cX8_laysPlaces 134 = .ok (.ishl, 1) := by decide +kernel
theorem dX8_laysPlaces_135 : decode cX8_laysPlaces 135 = .ok (.goto 4, 3) := by decide +kernel
theorem dX8_laysPlaces_138 : decode cX8_laysPlaces 138 = .ok (.iconst 0, 1) := by decide +kernel
theorem dX8_laysPlaces_139 : decode cX8_laysPlaces 139 = .ok (.ior, 1) := by decide +kernel
theorem dX8_laysPlaces_140 : decode cX8_laysPlaces 140 = .ok (.iastore, 1) := by decide +kernel
theorem dX8_laysPlaces_141 : decode cX8_laysPlaces 141 = .ok (.aload_n 0, 1) := by decide +kernel
theorem dX8_laysPlaces_142 : decode cX8_laysPlaces 142 = .ok (.getfield 32, 3) := by decide +kernel
theorem dX8_laysPlaces_145 : decode cX8_laysPlaces 145 = .ok (.bipush 10, 2) := by decide +kernel
theorem dX8_laysPlaces_147 : decode cX8_laysPlaces 147 = .ok (.iload_n 1, 1) := by decide +kernel
theorem dX8_laysPlaces_148 : decode cX8_laysPlaces 148 = .ok (.imul, 1) := by decide +kernel
theorem dX8_laysPlaces_149 : decode cX8_laysPlaces 149 = .ok (.iload 4, 2) := by decide +kernel
theorem dX8_laysPlaces_151 : decode cX8_laysPlaces 151 = .ok (.iadd, 1) := by decide +kernel
theorem dX8_laysPlaces_152 : decode cX8_laysPlaces 152 = .ok (.aload_n 0, 1) := by decide +kernel
theorem dX8_laysPlaces_153 : decode cX8_laysPlaces 153 = .ok (.getfield 7, 3) := by decide +kernel
theorem dX8_laysPlaces_156 : decode cX8_laysPlaces 156 = .ok (.iload 4, 2) := by decide +kernel
theorem dX8_laysPlaces_158 : decode cX8_laysPlaces 158 = .ok (.iaload, 1) := by decide +kernel
theorem dX8_laysPlaces_159 : decode cX8_laysPlaces 159 = .ok (.iload_n 2, 1) := by decide +kernel
theorem dX8_laysPlaces_160 : decode cX8_laysPlaces 160 = .ok (.isub, 1) := by decide +kernel
theorem dX8_laysPlaces_161 : decode cX8_laysPlaces 161 = .ok (.aload_n 0, 1) := by decide +kernel
theorem dX8_laysPlaces_162 : decode cX8_laysPlaces 162 = .ok (.getfield 13, 3) := by decide +kernel
theorem dX8_laysPlaces_165 : decode cX8_laysPlaces 165 = .ok (.iload 4, 2) := by decide +kernel
theorem dX8_laysPlaces_167 : decode cX8_laysPlaces 167 = .ok (.iaload, 1) := by decide +kernel
theorem dX8_laysPlaces_168 : decode cX8_laysPlaces 168 = .ok (.iload_n 3, 1) := by decide +kernel
theorem dX8_laysPlaces_169 : decode cX8_laysPlaces 169 = .ok (.isub, 1) := by decide +kernel
theorem dX8_laysPlaces_170 : decode cX8_laysPlaces 170 = .ok (.invokestatic 197, 3) := by decide +kernel
theorem dX8_laysPlaces_173 : decode cX8_laysPlaces 173 = .ok (.iastore, 1) := by decide +kernel
theorem dX8_laysPlaces_174 : decode cX8_laysPlaces 174 = .ok (.aload_n 0, 1) := by decide +kernel
theorem dX8_laysPlaces_175 : decode cX8_laysPlaces 175 = .ok (.getfield 35, 3) := by decide +kernel
theorem dX8_laysPlaces_178 : decode cX8_laysPlaces 178 = .ok (.bipush 10, 2) := by decide +kernel
theorem dX8_laysPlaces_180 : decode cX8_laysPlaces 180 = .ok (.iload_n 1, 1) := by decide +kernel
theorem dX8_laysPlaces_181 : decode cX8_laysPlaces 181 = .ok (.imul, 1) := by decide +kernel
theorem dX8_laysPlaces_182 : decode cX8_laysPlaces 182 = .ok (.iload 4, 2) := by decide +kernel
theorem dX8_laysPlaces_184 : decode cX8_laysPlaces 184 = .ok (.iadd, 1) := by decide +kernel
theorem dX8_laysPlaces_185 : decode cX8_laysPlaces 185 = .ok (.bipush 12, 2) := by decide +kernel
theorem dX8_laysPlaces_187 : decode cX8_laysPlaces 187 = .ok (.aload_n 0, 1) := by decide +kernel
theorem dX8_laysPlaces_188 : decode cX8_laysPlaces 188 = .ok (.getfield 16, 3) := by decide +kernel
theorem dX8_laysPlaces_191 : decode cX8_laysPlaces 191 = .ok (.iload 4, 2) := by decide +kernel
theorem dX8_laysPlaces_193 : decode cX8_laysPlaces 193 = .ok (.iaload, 1) := by decide +kernel
theorem dX8_laysPlaces_194 : decode cX8_laysPlaces 194 = .ok (.imul, 1) := by decide +kernel
theorem dX8_laysPlaces_195 : decode cX8_laysPlaces 195 = .ok (.aload_n 0, 1) := by decide +kernel
theorem dX8_laysPlaces_196 : decode cX8_laysPlaces 196 = .ok (.getfield 7, 3) := by decide +kernel
theorem dX8_laysPlaces_199 : decode cX8_laysPlaces 199 = .ok (.iload 4, 2) := by decide +kernel
theorem dX8_laysPlaces_201 : decode cX8_laysPlaces 201 = .ok (.iaload, 1) := by decide +kernel
theorem dX8_laysPlaces_202 : decode cX8_laysPlaces 202 = .ok (.iload_n 2, 1) := by decide +kernel
theorem dX8_laysPlaces_203 : decode cX8_laysPlaces 203 = .ok (.isub, 1) := by decide +kernel
theorem dX8_laysPlaces_204 : decode cX8_laysPlaces 204 = .ok (.aload_n 0, 1) := by decide +kernel
theorem dX8_laysPlaces_205 : decode cX8_laysPlaces 205 = .ok (.getfield 13, 3) := by decide +kernel
theorem dX8_laysPlaces_208 : decode cX8_laysPlaces 208 = .ok (.iload 4, 2) := by decide +kernel
theorem dX8_laysPlaces_210 : decode cX8_laysPlaces 210 = .ok (.iaload, 1) := by decide +kernel
theorem dX8_laysPlaces_211 : decode cX8_laysPlaces 211 = .ok (.iload_n 3, 1) := by decide +kernel
theorem dX8_laysPlaces_212 : decode cX8_laysPlaces 212 = .ok (.isub, 1) := by decide +kernel
theorem dX8_laysPlaces_213 : decode cX8_laysPlaces 213 = .ok (.invokestatic 180, 3) := by decide +kernel
theorem dX8_laysPlaces_216 : decode cX8_laysPlaces 216 = .ok (.idiv, 1) := by decide +kernel
theorem dX8_laysPlaces_217 : decode cX8_laysPlaces 217 = .ok (.iastore, 1) := by decide +kernel
theorem dX8_laysPlaces_218 : decode cX8_laysPlaces 218 = .ok (.iinc 4 1, 3) := by decide +kernel
theorem dX8_laysPlaces_221 : decode cX8_laysPlaces 221 = .ok (.goto (-126), 3) := by decide +kernel
theorem dX8_laysPlaces_224 : decode cX8_laysPlaces 224 = .ok (.iinc 1 1, 3) := by decide +kernel
theorem dX8_laysPlaces_227 : decode cX8_laysPlaces 227 = .ok (.goto (-225), 3) := by decide +kernel
theorem dX8_laysPlaces_230 : decode cX8_laysPlaces 230 = .ok (.return_, 1) := by decide +kernel
set_option maxRecDepth 20000 in
theorem ggX8_seen_X8_isThere : GoodIn wsX8_seen wsX8_isThere := goodIn_r _ [7, 8, 9, 10, 6, 11, 17, 18, 19, 20, 21, 22, 23, 24, 25, 26, 27, 28, 29, 30, 31, 32, 33, 34, 35, 36, 37, 38, 39, 40, 41, 42, 43, 44, 45, 46, 47, 48, 49, 50, 51, 52, 53, 54, 55, 56, 57, 58, 59, 60] (by decide +kernel) (by decide +kernel)
set_option maxRecDepth 20000 in
theorem gX8_seen_X8_isThere : GoodIn wsX8_seen (wsV RX8 200 RX8 yX8_isThere wsX8_isThere) := goodIn_app (goodIn_of _ (by decide +kernel)) ggX8_seen_X8_isThere
set_option maxRecDepth 20000 in
theorem ggX8_seen_X8_isPeak : GoodIn wsX8_seen wsX8_isPeak := goodIn_r _ [15, 16, 9, 10, 6, 11, 17, 18, 19, 20, 21, 22, 23, 24, 25, 26, 27, 28, 29, 30, 31, 32, 33, 34, 35, 36, 37, 38, 39, 40, 41, 42, 43, 44, 45, 46, 47, 48, 49, 50, 51, 52, 53, 54, 55, 56, 57, 58, 59, 60] (by decide +kernel) (by decide +kernel)
set_option maxRecDepth 20000 in
theorem gX8_seen_X8_isPeak : GoodIn wsX8_seen (wsV RX8 169 RX8 yX8_isPeak wsX8_isPeak) := goodIn_app (goodIn_of _ (by decide +kernel)) ggX8_seen_X8_isPeak
theorem dX8_seen_0 : decode cX8_seen 0 = .ok (.aload_n 0, 1) := by decide +kernel
theorem dX8_seen_1 : decode cX8_seen 1 = .ok (.iconst 0, 1) := by decide +kernel
theorem dX8_seen_2 : decode cX8_seen 2 = .ok (.putfield 98, 3) := by decide +kernel
theorem dX8_seen_5 : decode cX8_seen 5 = .ok (.aload_n 0, 1) := by decide +kernel
theorem dX8_seen_6 : decode cX8_seen 6 = .ok (.iload_n 1, 1) := by decide +kernel
theorem dX8_seen_7 : decode cX8_seen 7 = .ok (.iload_n 2, 1) := by decide +kernel
theorem dX8_seen_8 : decode cX8_seen 8 = .ok (.invokevirtual 200, 3) := by decide +kernel
theorem dX8_seen_11 : decode cX8_seen 11 = .ok (.ifCond .eq 29, 3) := by decide +kernel
theorem dX8_seen_14 : decode cX8_seen 14 = .ok (.aload_n 0, 1) := by decide +kernel
theorem dX8_seen_15 : decode cX8_seen 15 = .ok (.iload_n 3, 1) := by decide +kernel
theorem dX8_seen_16 : decode cX8_seen 16 = .ok (.invokevirtual 169, 3) := by decide +kernel
theorem dX8_seen_19 : decode cX8_seen 19 = .ok (.ifCond .eq 21, 3) := by decide +kernel
theorem dX8_seen_22 : decode cX8_seen 22 = .ok (.aload_n 0, 1) := by decide +kernel
theorem dX8_seen_23 : decode cX8_seen 23 = .ok (.getfield 29, 3) := by decide +kernel
theorem dX8_seen_26 : decode cX8_seen 26 = .ok (.bipush 8, 2) := by decide +kernel
theorem dX8_seen_28 : decode cX8_seen 28 = .ok (.iload_n 1, 1) := by decide +kernel
theorem dX8_seen_29 : decode cX8_seen 29 = .ok (.imul, 1) := by decide +kernel
theorem dX8_seen_30 : decode cX8_seen 30 = .ok (.iload_n 2, 1) := by decide +kernel
theorem dX8_seen_31 : decode cX8_seen 31 = .ok (.iadd, 1) := by decide +kernel
theorem dX8_seen_32 : decode cX8_seen 32 = .ok (.iaload, 1) := by decide +kernel
theorem dX8_seen_33 : decode cX8_seen 33 = .ok (.iload_n 3, 1) := by decide +kernel
theorem dX8_seen_34 : decode cX8_seen 34 = .ok (.ishr, 1) := by decide +kernel
theorem dX8_seen_35 : decode cX8_seen 35 = .ok (.iconst 1, 1) := by decide +kernel
theorem dX8_seen_36 : decode cX8_seen 36 = .ok (.iand, 1) := by decide +kernel
theorem dX8_seen_37 : decode cX8_seen 37 = .ok (.goto 4, 3) := by decide +kernel
theorem dX8_seen_40 : decode cX8_seen 40 = .ok (.iconst (-1), 1) := by decide +kernel
theorem dX8_seen_41 : decode cX8_seen 41 = .ok (.ireturn, 1) := by decide +kernel
set_option maxRecDepth 20000 in
theorem ggX8_bearing_X8_isThere : GoodIn wsX8_bearing wsX8_isThere := goodIn_r _ [7, 8, 9, 10, 6, 11, 17, 18, 19, 20, 21, 22, 23, 24, 25, 26, 27, 28, 29, 30, 31, 32, 33, 34, 35, 36, 37, 38, 39, 40, 41, 42, 43, 44, 45, 46, 47, 48, 49, 50, 51, 52, 53, 54, 55, 56, 57, 58, 59, 60] (by decide +kernel) (by decide +kernel)
set_option maxRecDepth 20000 in
theorem gX8_bearing_X8_isThere : GoodIn wsX8_bearing (wsV RX8 200 RX8 yX8_isThere wsX8_isThere) := goodIn_app (goodIn_of _ (by decide +kernel)) ggX8_bearing_X8_isThere
set_option maxRecDepth 20000 in
theorem ggX8_bearing_X8_isPeak : GoodIn wsX8_bearing wsX8_isPeak := goodIn_r _ [15, 16, 9, 10, 6, 11, 17, 18, 19, 20, 21, 22, 23, 24, 25, 26, 27, 28, 29, 30, 31, 32, 33, 34, 35, 36, 37, 38, 39, 40, 41, 42, 43, 44, 45, 46, 47, 48, 49, 50, 51, 52, 53, 54, 55, 56, 57, 58, 59, 60] (by decide +kernel) (by decide +kernel)
set_option maxRecDepth 20000 in
theorem gX8_bearing_X8_isPeak : GoodIn wsX8_bearing (wsV RX8 169 RX8 yX8_isPeak wsX8_isPeak) := goodIn_app (goodIn_of _ (by decide +kernel)) ggX8_bearing_X8_isPeak
theorem dX8_bearing_0 : decode cX8_bearing 0 = .ok (.aload_n 0, 1) := by decide +kernel
theorem dX8_bearing_1 : decode cX8_bearing 1 = .ok (.iconst 0, 1) := by decide +kernel
theorem dX8_bearing_2 : decode cX8_bearing 2 = .ok (.putfield 98, 3) := by decide +kernel
theorem dX8_bearing_5 : decode cX8_bearing 5 = .ok (.aload_n 0, 1) := by decide +kernel
theorem dX8_bearing_6 : decode cX8_bearing 6 = .ok (.iload_n 1, 1) := by decide +kernel
theorem dX8_bearing_7 : decode cX8_bearing 7 = .ok (.iload_n 2, 1) := by decide +kernel
theorem dX8_bearing_8 : decode cX8_bearing 8 = .ok (.invokevirtual 200, 3) := by decide +kernel
theorem dX8_bearing_11 : decode cX8_bearing 11 = .ok (.ifCond .eq 30, 3) := by decide +kernel
theorem dX8_bearing_14 : decode cX8_bearing 14 = .ok (.aload_n 0, 1) := by decide +kernel
theorem dX8_bearing_15 : decode cX8_bearing 15 = .ok (.iload_n 3, 1) := by decide +kernel
theorem dX8_bearing_16 : decode cX8_bearing 16 = .ok (.invokevirtual 169, 3) := by decide +kernel
theorem dX8_bearing_19 : decode cX8_bearing 19 = .ok (.ifCond .eq 22, 3) := by decide +kernel
theorem dX8_bearing_22 : decode cX8_bearing 22 = .ok (.aload_n 0, 1) := by decide +kernel
theorem dX8_bearing_23 : decode cX8_bearing 23 = .ok (.getfield 32, 3) := by decide +kernel
theorem dX8_bearing_26 : decode cX8_bearing 26 = .ok (.bipush 10, 2) := by decide +kernel
theorem dX8_bearing_28 : decode cX8_bearing 28 = .ok (.bipush 8, 2) := by decide +kernel
theorem dX8_bearing_30 : decode cX8_bearing 30 = .ok (.iload_n 1, 1) := by decide +kernel
theorem dX8_bearing_31 : decode cX8_bearing 31 = .ok (.imul, 1) := by decide +kernel
theorem dX8_bearing_32 : decode cX8_bearing 32 = .ok (.iload_n 2, 1) := by decide +kernel
theorem dX8_bearing_33 : decode cX8_bearing 33 = .ok (.iadd, 1) := by decide +kernel
theorem dX8_bearing_34 : decode cX8_bearing 34 = .ok (.imul, 1) := by decide +kernel
theorem dX8_bearing_35 : decode cX8_bearing 35 = .ok (.iload_n 3, 1) := by decide +kernel
theorem dX8_bearing_36 : decode cX8_bearing 36 = .ok (.iadd, 1) := by decide +kernel
theorem dX8_bearing_37 : decode cX8_bearing 37 = .ok (.iaload, 1) := by decide +kernel
theorem dX8_bearing_38 : decode cX8_bearing 38 = .ok (.goto 4, 3) := by decide +kernel
theorem dX8_bearing_41 : decode cX8_bearing 41 = .ok (.iconst (-1), 1) := by decide +kernel
theorem dX8_bearing_42 : decode cX8_bearing 42 = .ok (.ireturn, 1) := by decide +kernel
set_option maxRecDepth 20000 in
theorem ggX8_stands_X8_isThere : GoodIn wsX8_stands wsX8_isThere := goodIn_r _ [7, 8, 9, 10, 6, 11, 17, 18, 19, 20, 21, 22, 23, 24, 25, 26, 27, 28, 29, 30, 31, 32, 33, 34, 35, 36, 37, 38, 39, 40, 41, 42, 43, 44, 45, 46, 47, 48, 49, 50, 51, 52, 53, 54, 55, 56, 57, 58, 59, 60] (by decide +kernel) (by decide +kernel)
set_option maxRecDepth 20000 in
theorem gX8_stands_X8_isThere : GoodIn wsX8_stands (wsV RX8 200 RX8 yX8_isThere wsX8_isThere) := goodIn_app (goodIn_of _ (by decide +kernel)) ggX8_stands_X8_isThere
set_option maxRecDepth 20000 in
theorem ggX8_stands_X8_isPeak : GoodIn wsX8_stands wsX8_isPeak := goodIn_r _ [15, 16, 9, 10, 6, 11, 17, 18, 19, 20, 21, 22, 23, 24, 25, 26, 27, 28, 29, 30, 31, 32, 33, 34, 35, 36, 37, 38, 39, 40, 41, 42, 43, 44, 45, 46, 47, 48, 49, 50, 51, 52, 53, 54, 55, 56, 57, 58, 59, 60] (by decide +kernel) (by decide +kernel)
set_option maxRecDepth 20000 in
theorem gX8_stands_X8_isPeak : GoodIn wsX8_stands (wsV RX8 169 RX8 yX8_isPeak wsX8_isPeak) := goodIn_app (goodIn_of _ (by decide +kernel)) ggX8_stands_X8_isPeak
theorem dX8_stands_0 : decode cX8_stands 0 = .ok (.aload_n 0, 1) := by decide +kernel
theorem dX8_stands_1 : decode cX8_stands 1 = .ok (.iconst 0, 1) := by decide +kernel
theorem dX8_stands_2 : decode cX8_stands 2 = .ok (.putfield 98, 3) := by decide +kernel
theorem dX8_stands_5 : decode cX8_stands 5 = .ok (.aload_n 0, 1) := by decide +kernel
theorem dX8_stands_6 : decode cX8_stands 6 = .ok (.iload_n 1, 1) := by decide +kernel
theorem dX8_stands_7 : decode cX8_stands 7 = .ok (.iload_n 2, 1) := by decide +kernel
theorem dX8_stands_8 : decode cX8_stands 8 = .ok (.invokevirtual 200, 3) := by decide +kernel
theorem dX8_stands_11 : decode cX8_stands 11 = .ok (.ifCond .eq 30, 3) := by decide +kernel
theorem dX8_stands_14 : decode cX8_stands 14 = .ok (.aload_n 0, 1) := by decide +kernel
theorem dX8_stands_15 : decode cX8_stands 15 = .ok (.iload_n 3, 1) := by decide +kernel
theorem dX8_stands_16 : decode cX8_stands 16 = .ok (.invokevirtual 169, 3) := by decide +kernel
theorem dX8_stands_19 : decode cX8_stands 19 = .ok (.ifCond .eq 22, 3) := by decide +kernel
theorem dX8_stands_22 : decode cX8_stands 22 = .ok (.aload_n 0, 1) := by decide +kernel
theorem dX8_stands_23 : decode cX8_stands 23 = .ok (.getfield 35, 3) := by decide +kernel
theorem dX8_stands_26 : decode cX8_stands 26 = .ok (.bipush 10, 2) := by decide +kernel
theorem dX8_stands_28 : decode cX8_stands 28 = .ok (.bipush 8, 2) := by decide +kernel
theorem dX8_stands_30 : decode cX8_stands 30 = .ok (.iload_n 1, 1) := by decide +kernel
theorem dX8_stands_31 : decode cX8_stands 31 = .ok (.imul, 1) := by decide +kernel
theorem dX8_stands_32 : decode cX8_stands 32 = .ok (.iload_n 2, 1) := by decide +kernel
theorem dX8_stands_33 : decode cX8_stands 33 = .ok (.iadd, 1) := by decide +kernel
theorem dX8_stands_34 : decode cX8_stands 34 = .ok (.imul, 1) := by decide +kernel
theorem dX8_stands_35 : decode cX8_stands 35 = .ok (.iload_n 3, 1) := by decide +kernel
theorem dX8_stands_36 : decode cX8_stands 36 = .ok (.iadd, 1) := by decide +kernel
theorem dX8_stands_37 : decode cX8_stands 37 = .ok (.iaload, 1) := by decide +kernel
theorem dX8_stands_38 : decode cX8_stands 38 = .ok (.goto 4, 3) := by decide +kernel
theorem dX8_stands_41 : decode cX8_stands 41 = .ok (.iconst (-1), 1) := by decide +kernel
theorem dX8_stands_42 : decode cX8_stands 42 = .ok (.ireturn, 1) := by decide +kernel
theorem dX8_isUpper_0 : decode cX8_isUpper 0 = .ok (.iload_n 1, 1) := by decide +kernel
theorem dX8_isUpper_1 : decode cX8_isUpper 1 = .ok (.ifCond .gt 11, 3) := by decide +kernel
theorem dX8_isUpper_4 : decode cX8_isUpper 4 = .ok (.iload_n 1, 1) := by decide +kernel
theorem dX8_isUpper_5 : decode cX8_isUpper 5 = .ok (.ifCond .ne 11, 3) := by decide +kernel
theorem dX8_isUpper_8 : decode cX8_isUpper 8 = .ok (.iload_n 0, 1) := by decide +kernel
theorem dX8_isUpper_9 : decode cX8_isUpper 9 = .ok (.ifCond .le 7, 3) := by decide +kernel
theorem dX8_isUpper_12 : decode cX8_isUpper 12 = .ok (.iconst 1, 1) := by decide +kernel
theorem dX8_isUpper_13 : decode cX8_isUpper 13 = .ok (.goto 4, 3) := by decide +kernel
theorem dX8_isUpper_16 : decode cX8_isUpper 16 = .ok (.iconst 0, 1) := by decide +kernel
theorem dX8_isUpper_17 : decode cX8_isUpper 17 = .ok (.ireturn, 1) := by decide +kernel
set_option maxRecDepth 20000 in
theorem ggX8_isAhead_X8_isUpper : GoodIn wsX8_isAhead wsX8_isUpper := goodIn_r _ [6] (by decide +kernel) (by decide +kernel)
set_option maxRecDepth 20000 in
theorem gX8_isAhead_X8_isUpper : GoodIn wsX8_isAhead (va_wsS RX8 203 yX8_isUpper wsX8_isUpper) := goodIn_app (goodIn_of _ (by decide +kernel)) ggX8_isAhead_X8_isUpper
set_option maxRecDepth 20000 in
theorem ggX8_isAhead_X8_cross : GoodIn wsX8_isAhead wsX8_cross := goodIn_r _ [9] (by decide +kernel) (by decide +kernel)
set_option maxRecDepth 20000 in
theorem gX8_isAhead_X8_cross : GoodIn wsX8_isAhead (va_wsS RX8 176 yX8_cross wsX8_cross) := goodIn_app (goodIn_of _ (by decide +kernel)) ggX8_isAhead_X8_cross
set_option maxRecDepth 20000 in
theorem ggX8_isAhead_X8_way : GoodIn wsX8_isAhead wsX8_way := goodIn_r _ [12, 13, 14, 5, 15] (by decide +kernel) (by decide +kernel)
set_option maxRecDepth 20000 in
theorem gX8_isAhead_X8_way : GoodIn wsX8_isAhead (va_wsS RX8 180 yX8_way wsX8_way) := goodIn_app (goodIn_of _ (by decide +kernel)) ggX8_isAhead_X8_way
theorem dX8_isAhead_0 : decode cX8_isAhead 0 = .ok (.aload_n 0, 1) := by decide +kernel
theorem dX8_isAhead_1 : decode cX8_isAhead 1 = .ok (.getfield 7, 3) := by decide +kernel
theorem dX8_isAhead_4 : decode cX8_isAhead 4 = .ok (.iload_n 3, 1) := by decide +kernel
theorem dX8_isAhead_5 : decode cX8_isAhead 5 = .ok (.iaload, 1) := by decide +kernel
theorem dX8_isAhead_6 : decode cX8_isAhead 6 = .ok (.iload_n 1, 1) := by decide +kernel
theorem dX8_isAhead_7 : decode cX8_isAhead 7 = .ok (.isub, 1) := by decide +kernel
theorem dX8_isAhead_8 : decode cX8_isAhead 8 = .ok (.istore 5, 2) := by decide +kernel
theorem dX8_isAhead_10 : decode cX8_isAhead 10 = .ok (.aload_n 0, 1) := by decide +kernel
theorem dX8_isAhead_11 : decode cX8_isAhead 11 = .ok (.getfield 13, 3) := by decide +kernel
theorem dX8_isAhead_14 : decode cX8_isAhead 14 = .ok (.iload_n 3, 1) := by decide +kernel
theorem dX8_isAhead_15 : decode cX8_isAhead 15 = .ok (.iaload, 1) := by decide +kernel
theorem dX8_isAhead_16 : decode cX8_isAhead 16 = .ok (.iload_n 2, 1) := by decide +kernel
theorem dX8_isAhead_17 : decode cX8_isAhead 17 = .ok (.isub, 1) := by decide +kernel
theorem dX8_isAhead_18 : decode cX8_isAhead 18 = .ok (.istore 6, 2) := by decide +kernel
theorem dX8_isAhead_20 : decode cX8_isAhead 20 = .ok (.aload_n 0, 1) := by decide +kernel
theorem dX8_isAhead_21 : decode cX8_isAhead 21 = .ok (.getfield 7, 3) := by decide +kernel
theorem dX8_isAhead_24 : decode cX8_isAhead 24 = .ok (.iload 4, 2) := by decide +kernel
theorem dX8_isAhead_26 : decode cX8_isAhead 26 = .ok (.iaload, 1) := by decide +kernel
theorem dX8_isAhead_27 : decode cX8_isAhead 27 = .ok (.iload_n 1, 1) := by decide +kernel
theorem dX8_isAhead_28 : decode cX8_isAhead 28 = .ok (.isub, 1) := by decide +kernel
theorem dX8_isAhead_29 : decode cX8_isAhead 29 = .ok (.istore 7, 2) := by decide +kernel
theorem dX8_isAhead_31 : decode cX8_isAhead 31 = .ok (.aload_n 0, 1) := by decide +kernel
theorem dX8_isAhead_32 : decode cX8_isAhead 32 = .ok (.getfield 13, 3) := by decide +kernel
theorem dX8_isAhead_35 : decode cX8_isAhead 35 = .ok (.iload 4, 2) := by decide +kernel
theorem dX8_isAhead_37 : decode cX8_isAhead 37 = .ok (.iaload, 1) := by decide +kernel
theorem dX8_isAhead_38 : decode cX8_isAhead 38 = .ok (.iload_n 2, 1) := by decide +kernel
theorem dX8_isAhead_39 : decode cX8_isAhead 39 = .ok (.isub, 1) := by decide +kernel
theorem dX8_isAhead_40 : decode cX8_isAhead 40 = .ok (.istore 8, 2) := by decide +kernel
theorem dX8_isAhead_42 : decode cX8_isAhead 42 = .ok (.iload 5, 2) := by decide +kernel
theorem dX8_isAhead_44 : decode cX8_isAhead 44 = .ok (.iload 6, 2) := by decide +kernel
theorem dX8_isAhead_46 : decode cX8_isAhead 46 = .ok (.invokestatic 203, 3) := by decide +kernel
theorem dX8_isAhead_49 : decode cX8_isAhead 49 = .ok (.iload 7, 2) := by decide +kernel
theorem dX8_isAhead_51 : decode cX8_isAhead 51 = .ok (.iload 8, 2) := by decide +kernel
theorem dX8_isAhead_53 : decode cX8_isAhead 53 = .ok (.invokestatic 203, 3) := by decide +kernel
theorem dX8_isAhead_56 : decode cX8_isAhead 56 = .ok (.if_icmp .eq 11, 3) := by decide +kernel
theorem dX8_isAhead_59 : decode cX8_isAhead 59 = .ok (.iload 5, 2) := by decide +kernel
theorem dX8_isAhead_61 : decode cX8_isAhead 61 = .ok (.iload 6, 2) := by decide +kernel
theorem dX8_isAhead_63 : decode cX8_isAhead 63 = .ok (.invokestatic 203, 3) := by decide +kernel
theorem dX8_isAhead_66 : decode cX8_isAhead 66 = .ok (.ireturn, 1) := by decide +kernel
theorem dX8_isAhead_67 : decode cX8_isAhead 67 = .ok (.iload 5, 2) := by decide +kernel
theorem dX8_isAhead_69 : decode cX8_isAhead 69 = .ok (.iload 6, 2) := by decide +kernel
theorem dX8_isAhead_71 : decode cX8_isAhead 71 = .ok (.iload 7, 2) := by decide +kernel
theorem dX8_isAhead_73 : decode cX8_isAhead 73 = .ok (.iload 8, 2) := by decide +kernel
theorem dX8_isAhead_75 : decode cX8_isAhead 75 = .ok (.invokestatic 176, 3) := by decide +kernel
theorem dX8_isAhead_78 : decode cX8_isAhead 78 = .ok (.istore 9, 2) := by decide +kernel
theorem dX8_isAhead_80 : decode cX8_isAhead 80 = .ok (.iload 9, 2) := by decide +kernel
theorem dX8_isAhead_82 : decode cX8_isAhead 82 = .ok (.ifCond .eq 16, 3) := by decide +kernel
theorem dX8_isAhead_85 : decode cX8_isAhead 85 = .ok (.iload 9, 2) := by decide +kernel
theorem dX8_isAhead_87 : decode cX8_isAhead 87 = .ok (.ifCond .le 7, 3) := by decide +kernel
theorem dX8_isAhead_90 : decode cX8_isAhead 90 = .ok (.iconst 1, 1) := by decide +kernel
theorem dX8_isAhead_91 : decode cX8_isAhead 91 = .ok (.goto 29, 3) := by decide +kernel
theorem dX8_isAhead_94 : decode cX8_isAhead 94 = .ok (.iconst 0, 1) := by decide +kernel
theorem dX8_isAhead_95 : decode cX8_isAhead 95 = .ok (.goto 25, 3) := by decide +kernel
theorem dX8_isAhead_98 : decode cX8_isAhead 98 = .ok (.iload 5, 2) := by decide +kernel
theorem dX8_isAhead_100 : decode cX8_isAhead 100 = .ok (.iload 6, 2) := by decide +kernel
theorem dX8_isAhead_102 : decode cX8_isAhead 102 = .ok (.invokestatic 180, 3) := by decide +kernel
theorem dX8_isAhead_105 : decode cX8_isAhead 105 = .ok (.iload 7, 2) := by decide +kernel
theorem dX8_isAhead_107 : decode cX8_isAhead 107 = .ok (.iload 8, 2) := by decide +kernel
theorem dX8_isAhead_109 : decode cX8_isAhead 109 = .ok (.invokestatic 180, 3) := by decide +kernel
theorem dX8_isAhead_112 : decode cX8_isAhead 112 = .ok (.if_icmp .ge 7, 3) := by decide +kernel
theorem dX8_isAhead_115 : decode cX8_isAhead 115 = .ok (.iconst 1, 1) := by decide +kernel
theorem dX8_isAhead_116 : decode cX8_isAhead 116 = .ok (.goto 4, 3) := by decide +kernel
theorem dX8_isAhead_119 : decode cX8_isAhead 119 = .ok (.iconst 0, 1) := by decide +kernel
theorem dX8_isAhead_120 : decode cX8_isAhead 120 = .ok (.ireturn, 1) := by decide +kernel
set_option maxRecDepth 20000 in
theorem ggX8_panoramaAt_X8_isAhead : GoodIn wsX8_panoramaAt wsX8_isAhead := goodIn_r _ [7, 8, 9, 10, 11, 6, 12, 13, 14, 15, 16, 17, 18, 19, 20, 21, 22, 23, 24, 25, 26, 27, 28, 29, 30, 31, 32, 33, 34, 35, 36, 37, 38, 39, 40, 41, 42, 43, 44, 45, 46, 47, 48, 49, 50, 51, 52, 53, 54, 55, 56, 57, 58, 59, 60, 61, 62, 63, 64, 65] (by decide +kernel) (by decide +kernel)
set_option maxRecDepth 20000 in
theorem gX8_panoramaAt_X8_isAhead : GoodIn wsX8_panoramaAt (wsV RX8 206 RX8 yX8_isAhead wsX8_isAhead) := goodIn_app (goodIn_of _ (by decide +kernel)) ggX8_panoramaAt_X8_isAhead
theorem dX8_panoramaAt_0 : decode cX8_panoramaAt 0 = .ok (.aload_n 0, 1) := by decide +kernel
theorem dX8_panoramaAt_1 : decode cX8_panoramaAt 1 = .ok (.getfield 29, 3) := by decide +kernel
theorem dX8_panoramaAt_4 : decode cX8_panoramaAt 4 = .ok (.bipush 8, 2) := by decide +kernel
theorem dX8_panoramaAt_6 : decode cX8_panoramaAt 6 = .ok (.iload_n 1, 1) := by decide +kernel
theorem dX8_panoramaAt_7 : decode cX8_panoramaAt 7 = .ok (.imul, 1) := by decide +kernel
theorem dX8_panoramaAt_8 : decode cX8_panoramaAt 8 = .ok (.iload_n 2, 1) := by decide +kernel
theorem dX8_panoramaAt_9 : decode cX8_panoramaAt 9 = .ok (.iadd, 1) := by decide +kernel
theorem dX8_panoramaAt_10 : decode cX8_panoramaAt 10 = .ok (.iaload, 1) := by decide +kernel
theorem dX8_panoramaAt_11 : decode cX8_panoramaAt 11 = .ok (.istore 4, 2) := by decide +kernel
theorem dX8_panoramaAt_13 : decode cX8_panoramaAt 13 = .ok (.iconst 0, 1) := by decide +kernel
theorem dX8_panoramaAt_14 : decode cX8_panoramaAt 14 = .ok (.istore 5, 2) := by decide +kernel
theorem dX8_panoramaAt_16 : decode cX8_panoramaAt 16 = .ok (.bipush (-9), 2) := by decide +kernel
theorem dX8_panoramaAt_18 : decode cX8_panoramaAt 18 = .ok (.istore 6, 2) := by decide +kernel
theorem dX8_panoramaAt_20 : decode cX8_panoramaAt 20 = .ok (.iconst 0, 1) := by decide +kernel
theorem dX8_panoramaAt_21 : decode cX8_panoramaAt 21 = .ok (.istore 7, 2) := by decide +kernel
theorem dX8_panoramaAt_23 : decode cX8_panoramaAt 23 = .ok (.iload 7, 2) := by decide +kernel
theorem dX8_panoramaAt_25 : decode cX8_panoramaAt 25 = .ok (.aload_n 0, 1) := by decide +kernel
theorem dX8_panoramaAt_26 : decode cX8_panoramaAt 26 = .ok (.getfield 102, 3) := by decide +kernel
theorem dX8_panoramaAt_29 : decode cX8_panoramaAt 29 = .ok (.if_icmp .ge 100, 3) := by decide +kernel
theorem dX8_panoramaAt_32 : decode cX8_panoramaAt 32 = .ok (.iload 4, 2) := by decide +kernel
theorem dX8_panoramaAt_34 : decode cX8_panoramaAt 34 = .ok (.iload 7, 2) := by decide +kernel
theorem dX8_panoramaAt_36 : decode cX8_panoramaAt 36 = .ok (.ishr, 1) := by decide +kernel
theorem dX8_panoramaAt_37 : decode cX8_panoramaAt 37 = .ok (.iconst 1, 1) := by decide +kernel
theorem dX8_panoramaAt_38 : decode cX8_panoramaAt 38 = .ok (.iand, 1) := by decide +kernel
theorem dX8_panoramaAt_39 : decode cX8_panoramaAt 39 = .ok (.iconst 1, 1) := by decide +kernel
theorem dX8_panoramaAt_40 : decode cX8_panoramaAt 40 = .ok (.if_icmp .ne 83, 3) := by decide +kernel
theorem dX8_panoramaAt_43 : decode cX8_panoramaAt 43 = .ok (.iconst 0, 1) := by decide +kernel
theorem dX8_panoramaAt_44 : decode cX8_panoramaAt 44 = .ok (.istore 8, 2) := by decide +kernel
theorem dX8_panoramaAt_46 : decode cX8_panoramaAt 46 = .ok (.iconst 0, 1) := by decide +kernel
theorem dX8_panoramaAt_47 : decode cX8_panoramaAt 47 = .ok (.istore 9, 2) := by decide +kernel
theorem dX8_panoramaAt_49 : decode cX8_panoramaAt 49 = .ok (.iload 9, 2) := by decide +kernel
theorem dX8_panoramaAt_51 : decode cX8_panoramaAt 51 = .ok (.aload_n 0, 1) := by decide +kernel
theorem dX8_panoramaAt_52 : decode cX8_panoramaAt 52 = .ok (.getfield 102, 3) := by decide +kernel
theorem dX8_panoramaAt_55 : decode cX8_panoramaAt 55 = .ok (.if_icmp .ge 50, 3) := by decide +kernel
theorem dX8_panoramaAt_58 : decode cX8_panoramaAt 58 = .ok (.iload 8, 2) := by decide +kernel
theorem dX8_panoramaAt_60 : decode cX8_panoramaAt 60 = .ok (.iload 9, 2) := by decide +kernel
theorem dX8_panoramaAt_62 : decode cX8_panoramaAt 62 = .ok (.iload 7, 2) := by decide +kernel
theorem dX8_panoramaAt_64 : decode cX8_panoramaAt 64 = .ok (.if_icmp .eq 31, 3) := by decide +kernel
theorem dX8_panoramaAt_67 : decode cX8_panoramaAt 67 = .ok (.iload 4, 2) := by decide +kernel
theorem dX8_panoramaAt_69 : decode cX8_panoramaAt 69 = .ok (.iload 9, 2) := by decide +kernel
theorem dX8_panoramaAt_71 : decode cX8_panoramaAt 71 = .ok (.ishr, 1) := by decide +kernel
theorem dX8_panoramaAt_72 : decode cX8_panoramaAt 72 = .ok (.iconst 1, 1) := by decide +kernel
theorem dX8_panoramaAt_73 : decode cX8_panoramaAt 73 = .ok (.iand, 1) := by decide +kernel
theorem dX8_panoramaAt_74 : decode cX8_panoramaAt 74 = .ok (.iconst 1, 1) := by decide +kernel
theorem dX8_panoramaAt_75 : decode cX8_panoramaAt 75 = .ok (.if_icmp .ne 20, 3) := by decide +kernel
theorem dX8_panoramaAt_78 : decode cX8_panoramaAt 78 = .ok (.aload_n 0, 1) := by decide +kernel
theorem dX8_panoramaAt_79 : decode cX8_panoramaAt 79 = .ok (.iload_n 1, 1) := by decide +kernel
theorem dX8_panoramaAt_80 : decode cX8_panoramaAt 80 = .ok (.iload_n 2, 1) := by decide +kernel
theorem dX8_panoramaAt_81 : decode cX8_panoramaAt 81 = .ok (.iload 9, 2) := by decide +kernel
theorem dX8_panoramaAt_83 : decode cX8_panoramaAt 83 = .ok (.iload 7, 2) := by decide +kernel
theorem dX8_panoramaAt_85 : decode cX8_panoramaAt 85 = .ok (.invokevirtual 206, 3) := by decide +kernel
theorem dX8_panoramaAt_88 : decode cX8_panoramaAt 88 = .ok (.ifCond .eq 7, 3) := by decide +kernel
theorem dX8_panoramaAt_91 : decode cX8_panoramaAt 91 = .ok (.iconst 1, 1) := by decide +kernel
theorem dX8_panoramaAt_92 : decode cX8_panoramaAt 92 = .ok (.goto 4, 3) := by decide +kernel
theorem dX8_panoramaAt_95 : decode cX8_panoramaAt 95 = .ok (.iconst 0, 1) := by decide +kernel
theorem dX8_panoramaAt_96 : decode cX8_panoramaAt 96 = .ok (.iadd, 1) := by decide +kernel
theorem dX8_panoramaAt_97 : decode cX8_panoramaAt 97 = .ok (.istore 8, 2) := by decide +kernel
theorem dX8_panoramaAt_99 : decode cX8_panoramaAt 99 = .ok (.iinc 9 1, 3) := by decide +kernel
theorem dX8_panoramaAt_102 : decode cX8_panoramaAt 102 = .ok (.goto (-53), 3) := by decide +kernel
theorem dX8_panoramaAt_105 : decode cX8_panoramaAt 105 = .ok (.iload 8, 2) := by decide +kernel
theorem dX8_panoramaAt_107 : decode cX8_panoramaAt 107 = .ok (.iload_n 3, 1) := by decide +kernel
theorem dX8_panoramaAt_108 : decode cX8_panoramaAt 108 = .ok (.if_icmp .ne 8, 3) := by decide +kernel
theorem dX8_panoramaAt_111 : decode cX8_panoramaAt 111 = .ok (.iload 7, 2) := by decide +kernel
theorem dX8_panoramaAt_113 : decode cX8_panoramaAt 113 = .ok (.goto 5, 3) := by decide +kernel
theorem dX8_panoramaAt_116 : decode cX8_panoramaAt 116 = .ok (.iload 6, 2) := by decide +kernel
theorem dX8_panoramaAt_118 : decode cX8_panoramaAt 118 = .ok (.istore 6, 2) := by decide +kernel
theorem dX8_panoramaAt_120 : decode cX8_panoramaAt 120 = .ok (.iinc 5 1, 3) := by decide +kernel
theorem dX8_panoramaAt_123 : decode cX8_panoramaAt 123 = .ok (.iinc 7 1, 3) := by decide +kernel
theorem dX8_panoramaAt_126 : decode cX8_panoramaAt 126 = .ok (.goto (-103), 3) := by decide +kernel
theorem dX8_panoramaAt_129 : decode cX8_panoramaAt 129 = .ok (.iload_n 3, 1) := by decide +kernel
theorem dX8_panoramaAt_130 : decode cX8_panoramaAt 130 = .ok (.ifCond .ge 8, 3) := by decide +kernel
theorem dX8_panoramaAt_133 : decode cX8_panoramaAt 133 = .ok (.iload 5, 2) := by decide +kernel
theorem dX8_panoramaAt_135 : decode cX8_panoramaAt 135 = .ok (.goto 5, 3) := by decide +kernel
theorem dX8_panoramaAt_138 : decode cX8_panoramaAt 138 = .ok (.iload 6, 2) := by decide +kernel
theorem dX8_panoramaAt_140 : decode cX8_panoramaAt 140 = .ok (.ireturn, 1) := by decide +kernel
set_option maxRecDepth 20000 in
theorem ggX8_panorama_X8_isThere : GoodIn wsX8_panorama wsX8_isThere := goodIn_r _ [6, 7, 8, 9, 5, 10, 35, 36, 37, 38, 39, 40, 41, 42, 43, 44, 45, 46, 47, 48, 49, 50, 51, 52, 53, 54, 55, 56, 57, 58, 59, 60, 61, 62, 63, 64, 65, 66, 67, 68, 69, 70, 71, 72, 73, 74, 75, 76, 77, 78] (by decide +kernel) (by decide +kernel)
set_option maxRecDepth 20000 in
theorem gX8_panorama_X8_isThere : GoodIn wsX8_panorama (wsV RX8 200 RX8 yX8_isThere wsX8_isThere) := goodIn_app (goodIn_of _ (by decide +kernel)) ggX8_panorama_X8_isThere
set_option maxRecDepth 20000 in
theorem ggX8_panorama_X8_panoramaAt : GoodIn wsX8_panorama wsX8_panoramaAt := goodIn_r _ [14, 15, 16, 17, 18, 19, 5, 20, 21, 22, 23, 24, 25, 26, 27, 28, 29, 30, 31, 32, 33, 34, 35, 36, 37, 38, 39, 40, 41, 42, 43, 44, 45, 46, 47, 48, 49, 50, 51, 52, 53, 54, 55, 56, 57, 58, 59, 60, 61, 62, 63, 64, 65, 66, 67, 68, 69, 70, 71, 72, 73, 74, 75, 76, 77, 78] (by decide +kernel) (by decide +kernel)
set_option maxRecDepth 20000 in
theorem gX8_panorama_X8_panoramaAt : GoodIn wsX8_panorama (wsV RX8 209 RX8 yX8_panoramaAt wsX8_panoramaAt) := goodIn_app (goodIn_of _ (by decide +kernel)) ggX8_panorama_X8_panoramaAt
theorem dX8_panorama_0 : decode cX8_panorama 0 = .ok (.aload_n 0, 1) := by decide +kernel
theorem dX8_panorama_1 : decode cX8_panorama 1 = .ok (.iconst 0, 1) := by decide +kernel
theorem dX8_panorama_2 : decode cX8_panorama 2 = .ok (.putfield 98, 3) := by decide +kernel
theorem dX8_panorama_5 : decode cX8_panorama 5 = .ok (.aload_n 0, 1) := by decide +kernel
theorem dX8_panorama_6 : decode cX8_panorama 6 = .ok (.iload_n 1, 1) := by decide +kernel
theorem dX8_panorama_7 : decode cX8_panorama 7 = .ok (.iload_n 2, 1) := by decide +kernel
theorem dX8_panorama_8 : decode cX8_panorama 8 = .ok (.invokevirtual 200, 3) := by decide +kernel
theorem dX8_panorama_11 : decode cX8_panorama 11 = .ok (.ifCond .eq 18, 3) := by decide +kernel
theorem dX8_panorama_14 : decode cX8_panorama 14 = .ok (.iload_n 3, 1) := by decide +kernel
theorem dX8_panorama_15 : decode cX8_panorama 15 = .ok (.iconst (-1), 1) := by decide +kernel
theorem dX8_panorama_16 : decode cX8_panorama 16 = .ok (.if_icmp .lt 13, 3) := by decide +kernel
theorem dX8_panorama_19 : decode cX8_panorama 19 = .ok (.aload_n 0, 1) := by decide +kernel
theorem dX8_panorama_20 : decode cX8_panorama 20 = .ok (.iload_n 1, 1) := by decide +kernel
theorem dX8_panorama_21 : decode cX8_panorama 21 = .ok (.iload_n 2, 1) := by decide +kernel
theorem dX8_panorama_22 : decode cX8_panorama 22 = .ok (.iload_n 3, 1) := by decide +kernel
theorem dX8_panorama_23 : decode cX8_panorama 23 = .ok (.invokevirtual 209, 3) := by decide +kernel
theorem dX8_panorama_26 : decode cX8_panorama 26 = .ok (.goto 4, 3) := by decide +kernel
theorem dX8_panorama_29 : decode cX8_panorama 29 = .ok (.iconst (-1), 1) := by decide +kernel
theorem dX8_panorama_30 : decode cX8_panorama 30 = .ok (.ireturn, 1) := by decide +kernel
set_option maxRecDepth 20000 in
theorem ggX8_isFit_X8_size : GoodIn wsX8_isFit wsX8_size := goodIn_r _ [8] (by decide +kernel) (by decide +kernel)
set_option maxRecDepth 20000 in
theorem gX8_isFit_X8_size : GoodIn wsX8_isFit (va_wsS RX8 172 yX8_size wsX8_size) := goodIn_app (goodIn_of _ (by decide +kernel)) ggX8_isFit_X8_size
theorem dX8_isFit_0 : decode cX8_isFit 0 = .ok (.aload_n 0, 1) := by decide +kernel
theorem dX8_isFit_1 : decode cX8_isFit 1 = .ok (.getfield 32, 3) := by decide +kernel
theorem dX8_isFit_4 : decode cX8_isFit 4 = .ok (.bipush 10, 2) := by decide +kernel
theorem dX8_isFit_6 : decode cX8_isFit 6 = .ok (.iload_n 1, 1) := by decide +kernel
theorem dX8_isFit_7 : decode cX8_isFit 7 = .ok (.imul, 1) := by decide +kernel
theorem dX8_isFit_8 : decode cX8_isFit 8 = .ok (.iload 4, 2) := by decide +kernel
theorem dX8_isFit_10 : decode cX8_isFit 10 = .ok (.iadd, 1) := by decide +kernel
theorem dX8_isFit_11 : decode cX8_isFit 11 = .ok (.iaload, 1) := by decide +kernel
theorem dX8_isFit_12 : decode cX8_isFit 12 = .ok (.aload_n 0, 1) := by decide +kernel
theorem dX8_isFit_13 : decode cX8_isFit 13 = .ok (.getfield 38, 3) := by decide +kernel
theorem dX8_isFit_16 : decode cX8_isFit 16 = .ok (.iconst 1, 1) := by decide +kernel
theorem dX8_isFit_17 : decode cX8_isFit 17 = .ok (.iconst 2, 1) := by decide +kernel
theorem dX8_isFit_18 : decode cX8_isFit 18 = .ok (.iload_n 3, 1) := by decide +kernel
theorem dX8_isFit_19 : decode cX8_isFit 19 = .ok (.imul, 1) := by decide +kernel
theorem dX8_isFit_20 : decode cX8_isFit 20 = .ok (.iadd, 1) := by decide +kernel
theorem dX8_isFit_21 : decode cX8_isFit 21 = .ok (.iaload, 1) := by decide +kernel
theorem dX8_isFit_22 : decode cX8_isFit 22 = .ok (.isub, 1) := by decide +kernel
theorem dX8_isFit_23 : decode cX8_isFit 23 = .ok (.iload_n 2, 1) := by decide +kernel
theorem dX8_isFit_24 : decode cX8_isFit 24 = .ok (.isub, 1) := by decide +kernel
theorem dX8_isFit_25 : decode cX8_isFit 25 = .ok (.sipush 128, 3) := by decide +kernel
theorem dX8_isFit_28 : decode cX8_isFit 28 = .ok (.iadd, 1) := by decide +kernel
theorem dX8_isFit_29 : decode cX8_isFit 29 = .ok (.bipush 64, 2) := by decide +kernel
theorem dX8_isFit_31 : decode cX8_isFit 31 = .ok (.irem, 1) := by decide +kernel
theorem dX8_isFit_32 : decode cX8_isFit 32 = .ok (.istore 5, 2) := by decide +kernel
theorem dX8_isFit_34 : decode cX8_isFit 34 = .ok (.iload 5, 2) := by decide +kernel
theorem dX8_isFit_36 : decode cX8_isFit 36 = .ok (.bipush 32, 2) := by decide +kernel
theorem dX8_isFit_38 : decode cX8_isFit 38 = .ok (.if_icmp .le 11, 3) := by decide +kernel
theorem dX8_isFit_41 : decode cX8_isFit 41 = .ok (.bipush 64, 2) := by decide +kernel
theorem dX8_isFit_43 : decode cX8_isFit 43 = .ok (.iload 5, 2) := by decide +kernel
theorem dX8_isFit_45 : decode cX8_isFit 45 = .ok (.isub, 1) := by decide +kernel
theorem dX8_isFit_46 : decode cX8_isFit 46 = .ok (.goto 5, 3) := by decide +kernel
theorem dX8_isFit_49 : decode cX8_isFit 49 = .ok (.iload 5, 2) := by decide +kernel
theorem dX8_isFit_51 : decode cX8_isFit 51 = .ok (.istore 5, 2) := by decide +kernel
theorem dX8_isFit_53 : decode cX8_isFit 53 = .ok (.iload 5, 2) := by decide +kernel
theorem dX8_isFit_55 : decode cX8_isFit 55 = .ok (.aload_n 0, 1) := by decide +kernel
theorem dX8_isFit_56 : decode cX8_isFit 56 = .ok (.getfield 154, 3) := by decide +kernel
theorem dX8_isFit_59 : decode cX8_isFit 59 = .ok (.if_icmp .gt 40, 3) := by decide +kernel
theorem dX8_isFit_62 : decode cX8_isFit 62 = .ok (.aload_n 0, 1) := by decide +kernel
theorem dX8_isFit_63 : decode cX8_isFit 63 = .ok (.getfield 35, 3) := by decide +kernel
theorem dX8_isFit_66 : decode cX8_isFit 66 = .ok (.bipush 10, 2) := by decide +kernel
theorem dX8_isFit_68 : decode cX8_isFit 68 = .ok (.iload_n 1, 1) := by decide +kernel
theorem dX8_isFit_69 : decode cX8_isFit 69 = .ok (.imul, 1) := by decide +kernel
theorem dX8_isFit_70 : decode cX8_isFit 70 = .ok (.iload 4, 2) := by decide +kernel
theorem dX8_isFit_72 : decode cX8_isFit 72 = .ok (.iadd, 1) := by decide +kernel
theorem dX8_isFit_73 : decode cX8_isFit 73 = .ok (.iaload, 1) := by decide +kernel
theorem dX8_isFit_74 : decode cX8_isFit 74 = .ok (.aload_n 0, 1) := by decide +kernel
theorem dX8_isFit_75 : decode cX8_isFit 75 = .ok (.getfield 38, 3) := by decide +kernel
theorem dX8_isFit_78 : decode cX8_isFit 78 = .ok (.iconst 2, 1) := by decide +kernel
theorem dX8_isFit_79 : decode cX8_isFit 79 = .ok (.iconst 2, 1) := by decide +kernel
theorem dX8_isFit_80 : decode cX8_isFit 80 = .ok (.iload_n 3, 1) := by decide +kernel
theorem dX8_isFit_81 : decode cX8_isFit 81 = .ok (.imul, 1) := by decide +kernel
theorem dX8_isFit_82 : decode cX8_isFit 82 = .ok (.iadd, 1) := by decide +kernel
theorem dX8_isFit_83 : decode cX8_isFit 83 = .ok (.iaload, 1) := by decide +kernel
theorem dX8_isFit_84 : decode cX8_isFit 84 = .ok (.isub, 1) := by decide +kernel
theorem dX8_isFit_85 : decode cX8_isFit 85 = .ok (.invokestatic 172, 3) := by decide +kernel
theorem dX8_isFit_88 : decode cX8_isFit 88 = .ok (.aload_n 0, 1) := by decide +kernel
theorem dX8_isFit_89 : decode cX8_isFit 89 = .ok (.getfield 154, 3) := by decide +kernel
theorem dX8_isFit_92 : decode cX8_isFit 92 = .ok (.if_icmp .gt 7, 3) := by decide +kernel
theorem dX8_isFit_95 : decode cX8_isFit 95 = .ok (.iconst 1, 1) := by decide +kernel
theorem dX8_isFit_96 : decode cX8_isFit 96 = .ok (.goto 4, 3) := by decide +kernel
theorem dX8_isFit_99 : decode cX8_isFit 99 = .ok (.iconst 0, 1) := by decide +kernel
theorem dX8_isFit_100 : decode cX8_isFit 100 = .ok (.ireturn, 1) := by decide +kernel
set_option maxRecDepth 20000 in
theorem ggX8_finds_X8_gives : GoodIn wsX8_finds wsX8_gives := goodIn_r _ [10, 4, 11, 5, 12, 13, 14, 15, 16, 17, 18, 19, 20, 21, 22, 23, 24, 25, 26, 27, 28, 29, 30, 31, 32, 33, 34, 35, 36, 37, 38, 39, 40, 41, 42, 43, 44, 45, 46, 47, 48, 49, 50, 51, 52, 53, 54, 55] (by decide +kernel) (by decide +kernel)
set_option maxRecDepth 20000 in
theorem gX8_finds_X8_gives : GoodIn wsX8_finds (wsV RX8 213 RX8 yX8_gives wsX8_gives) := goodIn_app (goodIn_of _ (by decide +kernel)) ggX8_finds_X8_gives
theorem dX8_finds_0 : decode cX8_finds 0 = .ok (.iconst 0, 1) := by decide +kernel
theorem dX8_finds_1 : decode cX8_finds 1 = .ok (.istore_n 2, 1) := by decide +kernel
theorem dX8_finds_2 : decode cX8_finds 2 = .ok (.iconst 1, 1) := by decide +kernel
theorem dX8_finds_3 : decode cX8_finds 3 = .ok (.istore_n 3, 1) := by decide +kernel
theorem dX8_finds_4 : decode cX8_finds 4 = .ok (.aload_n 0, 1) := by decide +kernel
theorem dX8_finds_5 : decode cX8_finds 5 = .ok (.getfield 83, 3) := by decide +kernel
theorem dX8_finds_8 : decode cX8_finds 8 = .ok (.iconst 0, 1) := by decide +kernel
theorem dX8_finds_9 : decode cX8_finds 9 = .ok (.iload_n 1, 1) := by decide +kernel
theorem dX8_finds_10 : decode cX8_finds 10 = .ok (.iastore, 1) := by decide +kernel
theorem dX8_finds_11 : decode cX8_finds 11 = .ok (.iconst 0, 1) := by decide +kernel
theorem dX8_finds_12 : decode cX8_finds 12 = .ok (.istore 4, 2) := by decide +kernel
theorem dX8_finds_14 : decode cX8_finds 14 = .ok (.iload 4, 2) := by decide +kernel
theorem dX8_finds_16 : decode cX8_finds 16 = .ok (.iload_n 3, 1) := by decide +kernel
theorem dX8_finds_17 : decode cX8_finds 17 = .ok (.if_icmp .ge 115, 3) := by decide +kernel
theorem dX8_finds_20 : decode cX8_finds 20 = .ok (.iconst 0, 1) := by decide +kernel
theorem dX8_finds_21 : decode cX8_finds 21 = .ok (.istore 5, 2) := by decide +kernel
theorem dX8_finds_23 : decode cX8_finds 23 = .ok (.iload 5, 2) := by decide +kernel
theorem dX8_finds_25 : decode cX8_finds 25 = .ok (.aload_n 0, 1) := by decide +kernel
theorem dX8_finds_26 : decode cX8_finds 26 = .ok (.getfield 102, 3) := by decide +kernel
theorem dX8_finds_29 : decode cX8_finds 29 = .ok (.if_icmp .ge 97, 3) := by decide +kernel
theorem dX8_finds_32 : decode cX8_finds 32 = .ok (.aload_n 0, 1) := by decide +kernel
theorem dX8_finds_33 : decode cX8_finds 33 = .ok (.getfield 77, 3) := by decide +kernel
theorem dX8_finds_36 : decode cX8_finds 36 = .ok (.aload_n 0, 1) := by decide +kernel
theorem dX8_finds_37 : decode cX8_finds 37 = .ok (.getfield 83, 3) := by decide +kernel
theorem dX8_finds_40 : decode cX8_finds 40 = .ok (.iload 4, 2) := by decide +kernel
theorem dX8_finds_42 : decode cX8_finds 42 = .ok (.iaload, 1) := by decide +kernel
theorem dX8_finds_43 : decode cX8_finds 43 = .ok (.iaload, 1) := by decide +kernel
theorem dX8_finds_44 : decode cX8_finds 44 = .ok (.iload 5, 2) := by decide +kernel
theorem dX8_finds_46 : decode cX8_finds 46 = .ok (.ishr, 1) := by decide +kernel
theorem dX8_finds_47 : decode cX8_finds 47 = .ok (.iconst 1, 1) := by decide +kernel
theorem dX8_finds_48 : decode cX8_finds 48 = .ok (.iand, 1) := by decide +kernel
theorem dX8_finds_49 : decode cX8_finds 49 = .ok (.iconst 1, 1) := by decide +kernel
theorem dX8_finds_50 : decode cX8_finds 50 = .ok (.if_icmp .ne 70, 3) := by decide +kernel
theorem dX8_finds_53 : decode cX8_finds 53 = .ok (.iload_n 2, 1) := by decide +kernel
theorem dX8_finds_54 : decode cX8_finds 54 = .ok (.iload 5, 2) := by decide +kernel
theorem dX8_finds_56 : decode cX8_finds 56 = .ok (.ishr, 1) := by decide +kernel
theorem dX8_finds_57 : decode cX8_finds 57 = .ok (.iconst 1, 1) := by decide +kernel
theorem dX8_finds_58 : decode cX8_finds 58 = .ok (.iand, 1) := by decide +kernel
theorem dX8_finds_59 : decode cX8_finds 59 = .ok (.ifCond .ne 61, 3) := by decide +kernel
theorem dX8_finds_62 : decode cX8_finds 62 = .ok (.iload_n 2, 1) := by decide +kernel
theorem dX8_finds_63 : decode cX8_finds 63 = .ok (.iconst 1, 1) := by decide +kernel
theorem dX8_finds_64 : decode cX8_finds 64 = .ok (.iload 5, 2) := by decide +kernel
theorem dX8_finds_66 : decode cX8_finds 66 = .ok (.ishl, 1) := by decide +kernel
theorem dX8_finds_67 : decode cX8_finds 67 = .ok (.ior, 1) := by decide +kernel
theorem dX8_finds_68 : decode cX8_finds 68 = .ok (.istore_n 2, 1) := by decide +kernel
theorem dX8_finds_69 : decode cX8_finds 69 = .ok (.aload_n 0, 1) := by decide +kernel
theorem dX8_finds_70 : decode cX8_finds 70 = .ok (.getfield 86, 3) := by decide +kernel
theorem dX8_finds_73 : decode cX8_finds 73 = .ok (.iload 5, 2) := by decide +kernel
theorem dX8_finds_75 : decode cX8_finds 75 = .ok (.aload_n 0, 1) := by decide +kernel
theorem dX8_finds_76 : decode cX8_finds 76 = .ok (.getfield 83, 3) := by decide +kernel
theorem dX8_finds_79 : decode cX8_finds 79 = .ok (.iload 4, 2) := by decide +kernel
theorem dX8_finds_81 : decode cX8_finds 81 = .ok (.iaload, 1) := by decide +kernel
theorem dX8_finds_82 : decode cX8_finds 82 = .ok (.iastore, 1) := by decide +kernel
theorem dX8_finds_83 : decode cX8_finds 83 = .ok (.aload_n 0, 1) := by decide +kernel
theorem dX8_finds_84 : decode cX8_finds 84 = .ok (.getfield 80, 3) := by decide +kernel
theorem dX8_finds_87 : decode cX8_finds 87 = .ok (.iload 5, 2) := by decide +kernel
theorem dX8_finds_89 : decode cX8_finds 89 = .ok (.iaload, 1) := by decide +kernel
theorem dX8_finds_90 : decode cX8_finds 90 = .ok (.bipush (-9), 2) := by decide +kernel
theorem dX8_finds_92 : decode cX8_finds 92 = .ok (.if_icmp .ne 12, 3) := by decide +kernel
theorem dX8_finds_95 : decode cX8_finds 95 = .ok (.aload_n 0, 1) := by decide +kernel
theorem dX8_finds_96 : decode cX8_finds 96 = .ok (.iload 5, 2) := by decide +kernel
theorem dX8_finds_98 : decode cX8_finds 98 = .ok (.iload_n 1, 1) := by decide +kernel
theorem dX8_finds_99 : decode cX8_finds 99 = .ok (.invokevirtual 213, 3) := by decide +kernel
theorem dX8_finds_102 : decode cX8_finds 102 = .ok (.iconst 1, 1) := by decide +kernel
theorem dX8_finds_103 : decode cX8_finds 103 = .ok (.ireturn, 1) := by decide +kernel
theorem dX8_finds_104 : decode cX8_finds 104 = .ok (.aload_n 0, 1) := by decide +kernel
theorem dX8_finds_105 : decode cX8_finds 105 = .ok (.getfield 83, 3) := by decide +kernel
theorem dX8_finds_108 : decode cX8_finds 108 = .ok (.iload_n 3, 1) := by decide +kernel
theorem dX8_finds_109 : decode cX8_finds 109 = .ok (.aload_n 0, 1) := by decide +kernel
theorem dX8_finds_110 : decode cX8_finds 110 = .ok (.getfield 80, 3) := by decide +kernel
theorem dX8_finds_113 : decode cX8_finds 113 = .ok (.iload 5, 2) := by decide +kernel
theorem dX8_finds_115 : decode cX8_finds 115 = .ok (.iaload, 1) := by decide +kernel
theorem dX8_finds_116 : decode cX8_finds 116 = .ok (.iastore, 1) := by decide +kernel
theorem dX8_finds_117 : decode cX8_finds 117 = .ok (.iinc 3 1, 3) := by decide +kernel
theorem dX8_finds_120 : decode cX8_finds 120 = .ok (.iinc 5 1, 3) := by decide +kernel
theorem dX8_finds_123 : decode cX8_finds 123 = .ok (.goto (-100), 3) := by decide +kernel
theorem dX8_finds_126 : decode cX8_finds 126 = .ok (.iinc 4 1, 3) := by decide +kernel
theorem dX8_finds_129 : decode cX8_finds 129 = .ok (.goto (-115), 3) := by decide +kernel
theorem dX8_finds_132 : decode cX8_finds 132 = .ok (.iconst 0, 1) := by decide +kernel
theorem dX8_finds_133 : decode cX8_finds 133 = .ok (.ireturn, 1) := by decide +kernel
theorem dX8_gives_0 : decode cX8_gives 0 = .ok (.iload_n 1, 1) := by decide +kernel
theorem dX8_gives_1 : decode cX8_gives 1 = .ok (.istore_n 3, 1) := by decide +kernel
theorem dX8_gives_2 : decode cX8_gives 2 = .ok (.iconst 1, 1) := by decide +kernel
theorem dX8_gives_3 : decode cX8_gives 3 = .ok (.istore 4, 2) := by decide +kernel
theorem dX8_gives_5 : decode cX8_gives 5 = .ok (.iload 4, 2) := by decide +kernel
theorem dX8_gives_7 : decode cX8_gives 7 = .ok (.ifCond .eq 55, 3) := by decide +kernel
theorem dX8_gives_10 : decode cX8_gives 10 = .ok (.aload_n 0, 1) := by decide +kernel
theorem dX8_gives_11 : decode cX8_gives 11 = .ok (.getfield 86, 3) := by decide +kernel
theorem dX8_gives_14 : decode cX8_gives 14 = .ok (.iload_n 3, 1) := by decide +kernel
theorem dX8_gives_15 : decode cX8_gives 15 = .ok (.iaload, 1) := by decide +kernel
theorem dX8_gives_16 : decode cX8_gives 16 = .ok (.istore 5, 2) := by decide +kernel
theorem dX8_gives_18 : decode cX8_gives 18 = .ok (.aload_n 0, 1) := by decide +kernel
theorem dX8_gives_19 : decode cX8_gives 19 = .ok (.getfield 89, 3) := by decide +kernel
theorem dX8_gives_22 : decode cX8_gives 22 = .ok (.iload 5, 2) := by decide +kernel
theorem dX8_gives_24 : decode cX8_gives 24 = .ok (.iaload, 1) := by decide +kernel
theorem dX8_gives_25 : decode cX8_gives 25 = .ok (.istore 6, 2) := by decide +kernel
theorem dX8_gives_27 : decode cX8_gives 27 = .ok (.aload_n 0, 1) := by decide +kernel
theorem dX8_gives_28 : decode cX8_gives 28 = .ok (.getfield 89, 3) := by decide +kernel
theorem dX8_gives_31 : decode cX8_gives 31 = .ok (.iload 5, 2) := by decide +kernel
theorem dX8_gives_33 : decode cX8_gives 33 = .ok (.iload_n 3, 1) := by decide +kernel
theorem dX8_gives_34 : decode cX8_gives 34 = .ok (.iastore, 1) := by decide +kernel
theorem dX8_gives_35 : decode cX8_gives 35 = .ok (.aload_n 0, 1) := by decide +kernel
theorem dX8_gives_36 : decode cX8_gives 36 = .ok (.getfield 80, 3) := by decide +kernel
theorem dX8_gives_39 : decode cX8_gives 39 = .ok (.iload_n 3, 1) := by decide +kernel
theorem dX8_gives_40 : decode cX8_gives 40 = .ok (.iload 5, 2) := by decide +kernel
theorem dX8_gives_42 : decode cX8_gives 42 = .ok (.iastore, 1) := by decide +kernel
theorem dX8_gives_43 : decode cX8_gives 43 = .ok (.iload 5, 2) := by decide +kernel
theorem dX8_gives_45 : decode cX8_gives 45 = .ok (.iload_n 2, 1) := by decide +kernel
theorem dX8_gives_46 : decode cX8_gives 46 = .ok (.if_icmp .eq 7, 3) := by decide +kernel
theorem dX8_gives_49 : decode cX8_gives 49 = .ok (.iconst 1, 1) := by decide +kernel
theorem dX8_gives_50 : decode cX8_gives 50 = .ok (.goto 4, 3) := by decide +kernel
theorem dX8_gives_53 : decode cX8_gives 53 = .ok (.iconst 0, 1) := by decide +kernel
theorem dX8_gives_54 : decode cX8_gives 54 = .ok (.istore 4, 2) := by decide +kernel
theorem dX8_gives_56 : decode cX8_gives 56 = .ok (.iload 6, 2) := by decide +kernel
theorem dX8_gives_58 : decode cX8_gives 58 = .ok (.istore_n 3, 1) := by decide +kernel
theorem dX8_gives_59 : decode cX8_gives 59 = .ok (.goto (-54), 3) := by decide +kernel
theorem dX8_gives_62 : decode cX8_gives 62 = .ok (.return_, 1) := by decide +kernel
set_option maxRecDepth 20000 in
theorem ggX8_scoreOf_X8_isFit : GoodIn wsX8_scoreOf wsX8_isFit := goodIn_r _ [11, 12, 1, 13, 14, 15, 16, 10, 17, 28, 29, 30, 31, 32, 33, 34, 35, 36, 37, 38, 39, 40, 41, 42, 43, 44, 45, 46, 47, 48, 49, 50, 51, 52, 53, 54, 55, 56, 57, 58, 59, 60, 61, 62, 63, 64, 65, 66, 67, 68, 69, 70, 71] (by decide +kernel) (by decide +kernel)
set_option maxRecDepth 20000 in
theorem gX8_scoreOf_X8_isFit : GoodIn wsX8_scoreOf (wsV RX8 217 RX8 yX8_isFit wsX8_isFit) := goodIn_app (goodIn_of _ (by decide +kernel)) ggX8_scoreOf_X8_isFit
set_option maxRecDepth 20000 in
theorem ggX8_scoreOf_X8_finds : GoodIn wsX8_scoreOf wsX8_finds := goodIn_r _ [21, 22, 3, 2, 23, 5, 24, 25, 26, 10, 27, 6, 28, 29, 30, 31, 32, 33, 34, 35, 36, 37, 38, 39, 40, 41, 42, 43, 44, 45, 46, 47, 48, 49, 50, 51, 52, 53, 54, 55, 56, 57, 58, 59, 60, 61, 62, 63, 64, 65, 66, 67, 68, 69, 70, 71] (by decide +kernel) (by decide +kernel)
set_option maxRecDepth 20000 in
theorem gX8_scoreOf_X8_finds : GoodIn wsX8_scoreOf (wsV RX8 220 RX8 yX8_finds wsX8_finds) := goodIn_app (goodIn_of _ (by decide +kernel)) ggX8_scoreOf_X8_finds
theorem dX8_scoreOf_0 : decode cX8_scoreOf 0 = .ok (.iconst 0, 1) := by decide +kernel
theorem dX8_scoreOf_1 : decode cX8_scoreOf 1 = .ok (.istore 5, 2) := by decide +kernel
theorem dX8_scoreOf_3 : decode cX8_scoreOf 3 = .ok (.iconst 0, 1) := by decide +kernel
theorem dX8_scoreOf_4 : decode cX8_scoreOf 4 = .ok (.istore 6, 2) := by decide +kernel
theorem dX8_scoreOf_6 : decode cX8_scoreOf 6 = .ok (.iload 6, 2) := by decide +kernel
theorem dX8_scoreOf_8 : decode cX8_scoreOf 8 = .ok (.aload_n 0, 1) := by decide +kernel
theorem dX8_scoreOf_9 : decode cX8_scoreOf 9 = .ok (.getfield 38, 3) := by decide +kernel
theorem dX8_scoreOf_12 : decode cX8_scoreOf 12 = .ok (.iconst 0, 1) := by decide +kernel
theorem dX8_scoreOf_13 : decode cX8_scoreOf 13 = .ok (.iaload, 1) := by decide +kernel
theorem dX8_scoreOf_14 : decode cX8_scoreOf 14 = .ok (.if_icmp .ge 118, 3) := by decide +kernel
theorem dX8_scoreOf_17 : decode cX8_scoreOf 17 = .ok (.aload_n 0, 1) := by decide +kernel
theorem dX8_scoreOf_18 : decode cX8_scoreOf 18 = .ok (.getfield 77, 3) := by decide +kernel
theorem dX8_scoreOf_21 : decode cX8_scoreOf 21 = .ok (.iload 6, 2) := by decide +kernel
theorem dX8_scoreOf_23 : decode cX8_scoreOf 23 = .ok (.iconst 0, 1) := by decide +kernel
theorem dX8_scoreOf_24 : decode cX8_scoreOf 24 = .ok (.iastore, 1) := by decide +kernel
theorem dX8_scoreOf_25 : decode cX8_scoreOf 25 = .ok (.iconst 0, 1) := by decide +kernel
theorem dX8_scoreOf_26 : decode cX8_scoreOf 26 = .ok (.istore 7, 2) := by decide +kernel
theorem dX8_scoreOf_28 : decode cX8_scoreOf 28 = .ok (.iload 7, 2) := by decide +kernel
theorem dX8_scoreOf_30 : decode cX8_scoreOf 30 = .ok (.aload_n 0, 1) := by decide +kernel
theorem dX8_scoreOf_31 : decode cX8_scoreOf 31 = .ok (.getfield 102, 3) := by decide +kernel
theorem dX8_scoreOf_34 : decode cX8_scoreOf 34 = .ok (.if_icmp .ge 80, 3) := by decide +kernel
theorem dX8_scoreOf_37 : decode cX8_scoreOf 37 = .ok (.iload 6, 2) := by decide +kernel
theorem dX8_scoreOf_39 : decode cX8_scoreOf 39 = .ok (.iload_n 3, 1) := by decide +kernel
theorem dX8_scoreOf_40 : decode cX8_scoreOf 40 = .ok (.if_icmp .eq 74, 3) := by decide +kernel
theorem dX8_scoreOf_43 : decode cX8_scoreOf 43 = .ok (.iload 7, 2) := by decide +kernel
theorem dX8_scoreOf_45 : decode cX8_scoreOf 45 = .ok (.iload 4, 2) := by decide +kernel
theorem dX8_scoreOf_47 : decode cX8_scoreOf 47 = .ok (.if_icmp .eq 35, 3) := by decide +kernel
theorem dX8_scoreOf_50 : decode cX8_scoreOf 50 = .ok (.aload_n 0, 1) := by decide +kernel
theorem dX8_scoreOf_51 : decode cX8_scoreOf 51 = .ok (.getfield 29, 3) := by decide +kernel
theorem dX8_scoreOf_54 : decode cX8_scoreOf 54 = .ok (.iload_n 1, 1) := by decide +kernel
theorem dX8_scoreOf_55 : decode cX8_scoreOf 55 = .ok (.iaload, 1) := by decide +kernel
theorem dX8_scoreOf_56 : decode cX8_scoreOf 56 = .ok (.iload 7, 2) := by decide +kernel
theorem dX8_scoreOf_58 : decode cX8_scoreOf 58 = .ok (.ishr, 1) := by decide +kernel
theorem dX8_scoreOf_59 : decode cX8_scoreOf 59 = .ok (.iconst 1, 1) := by decide +kernel
theorem dX8_scoreOf_60 : decode cX8_scoreOf 60 = .ok (.iand, 1) := by decide +kernel
theorem dX8_scoreOf_61 : decode cX8_scoreOf 61 = .ok (.iconst 1, 1) := by decide +kernel
theorem dX8_scoreOf_62 : decode cX8_scoreOf 62 = .ok (.if_icmp .ne 20, 3) := by decide +kernel
theorem dX8_scoreOf_65 : decode cX8_scoreOf 65 = .ok (.aload_n 0, 1) := by decide +kernel
theorem dX8_scoreOf_66 : decode cX8_scoreOf 66 = .ok (.iload_n 1, 1) := by decide +kernel
theorem dX8_scoreOf_67 : decode cX8_scoreOf 67 = .ok (.iload_n 2, 1) := by decide +kernel
theorem dX8_scoreOf_68 : decode cX8_scoreOf 68 = .ok (.iload 6, 2) := by decide +kernel
theorem dX8_scoreOf_70 : decode cX8_scoreOf 70 = .ok (.iload 7, 2) := by decide +kernel
theorem dX8_scoreOf_72 : decode cX8_scoreOf 72 = .ok (.invokevirtual 217, 3) := by decide +kernel
theorem dX8_scoreOf_75 : decode cX8_scoreOf 75 = .ok (.ifCond .eq 7, 3) := by decide +kernel
theorem dX8_scoreOf_78 : decode cX8_scoreOf 78 = .ok (.iconst 1, 1) := by decide +kernel
theorem dX8_scoreOf_79 : decode cX8_scoreOf 79 = .ok (.goto 4, 3) := by decide +kernel
theorem dX8_scoreOf_82 : decode cX8_scoreOf 82 = .ok (.iconst 0, 1) := by decide +kernel
theorem dX8_scoreOf_83 : decode cX8_scoreOf 83 = .ok (.istore 8, 2) := by decide +kernel
theorem dX8_scoreOf_85 : decode cX8_scoreOf 85 = .ok (.aload_n 0, 1) := by decide +kernel
theorem dX8_scoreOf_86 : decode cX8_scoreOf 86 = .ok (.getfield 77, 3) := by decide +kernel
theorem dX8_scoreOf_89 : decode cX8_scoreOf 89 = .ok (.iload 6, 2) := by decide +kernel
theorem dX8_scoreOf_91 : decode cX8_scoreOf 91 = .ok (.dup2, 1) := by decide +kernel
theorem dX8_scoreOf_92 : decode cX8_scoreOf 92 = .ok (.iaload, 1) := by decide +kernel
theorem dX8_scoreOf_93 : decode cX8_scoreOf 93 = .ok (.iload 8, 2) := by decide +kernel
theorem dX8_scoreOf_95 : decode cX8_scoreOf 95 = .ok (.ifCond .eq 10, 3) := by decide +kernel
theorem dX8_scoreOf_98 : decode cX8_scoreOf 98 = .ok (.iconst 1, 1) := by decide +kernel
theorem dX8_scoreOf_99 : decode cX8_scoreOf 99 = .ok (.iload 7, 2) := by decide +kernel
theorem dX8_scoreOf_101 : decode cX8_scoreOf 101 = .ok (.ishl, 1) := by decide +kernel
theorem dX8_scoreOf_102 : decode cX8_scoreOf 102 = .ok (.goto 4, 3) := by decide +kernel
theorem dX8_scoreOf_105 : decode cX8_scoreOf 105 = .ok (.iconst 0, 1) := by decide +kernel
theorem dX8_scoreOf_106 : decode cX8_scoreOf 106 = .ok (.ior, 1) := by decide +kernel
theorem dX8_scoreOf_107 : decode cX8_scoreOf 107 = .ok (.iastore, 1) := by decide +kernel
theorem dX8_scoreOf_108 : decode cX8_scoreOf 108 = .ok (.iinc 7 1, 3) := by decide +kernel
theorem dX8_scoreOf_111 : decode cX8_scoreOf 111 = .ok (.goto (-83), 3) := by decide +kernel
theorem dX8_scoreOf_114 : decode cX8_scoreOf 114 = .ok (.iload 5, 2) := by decide +kernel
theorem dX8_scoreOf_116 : decode cX8_scoreOf 116 = .ok (.aload_n 0, 1) := by decide +kernel
theorem dX8_scoreOf_117 : decode cX8_scoreOf 117 = .ok (.getfield 77, 3) := by decide +kernel
theorem dX8_scoreOf_120 : decode cX8_scoreOf 120 = .ok (.iload 6, 2) := by decide +kernel
theorem dX8_scoreOf_122 : decode cX8_scoreOf 122 = .ok (.iaload, 1) := by decide +kernel
theorem dX8_scoreOf_123 : decode cX8_scoreOf 123 = .ok (.ior, 1) := by decide +kernel
theorem dX8_scoreOf_124 : decode cX8_scoreOf 124 = .ok (.istore 5, 2) := by decide +kernel
theorem dX8_scoreOf_126 : decode cX8_scoreOf 126 = .ok (.iinc 6 1, 3) := by decide +kernel
theorem dX8_scoreOf_129 : decode cX8_scoreOf 129 = .ok (.goto (-123), 3) := by decide +kernel
theorem dX8_scoreOf_132 : decode cX8_scoreOf 132 = .ok (.iload 5, 2) := by decide +kernel
theorem dX8_scoreOf_134 : decode cX8_scoreOf 134 = .ok (.ifCond .ne 5, 3) := by decide +kernel
theorem dX8_scoreOf_137 : decode cX8_scoreOf 137 = .ok (.iconst 0, 1) := by decide +kernel
theorem dX8_scoreOf_138 : decode cX8_scoreOf 138 = .ok (.ireturn, 1) := by decide +kernel
theorem dX8_scoreOf_139 : decode cX8_scoreOf 139 = .ok (.iconst 0, 1) := by decide +kernel
theorem dX8_scoreOf_140 : decode cX8_scoreOf 140 = .ok (.istore 6, 2) := by decide +kernel
theorem dX8_scoreOf_142 : decode cX8_scoreOf 142 = .ok (.iload 6, 2) := by decide +kernel
theorem dX8_scoreOf_144 : decode cX8_scoreOf 144 = .ok (.aload_n 0, 1) := by decide +kernel
theorem dX8_scoreOf_145 : decode cX8_scoreOf 145 = .ok (.getfield 102, 3) := by decide +kernel
theorem dX8_scoreOf_148 : decode cX8_scoreOf 148 = .ok (.if_icmp .ge 18, 3) := by decide +kernel
theorem dX8_scoreOf_151 : decode cX8_scoreOf 151 = .ok (.aload_n 0, 1) := by decide +kernel
theorem dX8_scoreOf_152 : decode cX8_scoreOf 152 = .ok (.getfield 80, 3) := by decide +kernel
theorem dX8_scoreOf_155 : decode cX8_scoreOf 155 = .ok (.iload 6, 2) := by decide +kernel
theorem dX8_scoreOf_157 : decode cX8_scoreOf 157 = .ok (.bipush (-9), 2) := by decide +kernel
theorem dX8_scoreOf_159 : decode cX8_scoreOf 159 = .ok (.iastore, 1) := by decide +kernel
theorem dX8_scoreOf_160 : decode cX8_scoreOf 160 = .ok (.iinc 6 1, 3) := by decide +kernel
theorem dX8_scoreOf_163 : decode cX8_scoreOf 163 = .ok (.goto (-21), 3) := by decide +kernel
theorem dX8_scoreOf_166 : decode cX8_scoreOf 166 = .ok (.iconst 0, 1) := by decide +kernel
theorem dX8_scoreOf_167 : decode cX8_scoreOf 167 = .ok (.istore 6, 2) := by decide +kernel
theorem dX8_scoreOf_169 : decode cX8_scoreOf 169 = .ok (.iconst 0, 1) := by decide +kernel
theorem dX8_scoreOf_170 : decode cX8_scoreOf 170 = .ok (.istore 7, 2) := by decide +kernel
theorem dX8_scoreOf_172 : decode cX8_scoreOf 172 = .ok (.iload 7, 2) := by decide +kernel
theorem dX8_scoreOf_174 : decode cX8_scoreOf 174 = .ok (.aload_n 0, 1) := by decide +kernel
theorem dX8_scoreOf_175 : decode cX8_scoreOf 175 = .ok (.getfield 38, 3) := by decide +kernel
theorem dX8_scoreOf_178 : decode cX8_scoreOf 178 = .ok (.iconst 0, 1) := by decide +kernel
theorem dX8_scoreOf_179 : decode cX8_scoreOf 179 = .ok (.iaload, 1) := by decide +kernel
theorem dX8_scoreOf_180 : decode cX8_scoreOf 180 = .ok (.if_icmp .ge 18, 3) := by decide +kernel
theorem dX8_scoreOf_183 : decode cX8_scoreOf 183 = .ok (.aload_n 0, 1) := by decide +kernel
theorem dX8_scoreOf_184 : decode cX8_scoreOf 184 = .ok (.getfield 89, 3) := by decide +kernel
theorem dX8_scoreOf_187 : decode cX8_scoreOf 187 = .ok (.iload 7, 2) := by decide +kernel
theorem dX8_scoreOf_189 : decode cX8_scoreOf 189 = .ok (.bipush (-9), 2) := by decide +kernel
theorem dX8_scoreOf_191 : decode cX8_scoreOf 191 = .ok (.iastore, 1) := by decide +kernel
theorem dX8_scoreOf_192 : decode cX8_scoreOf 192 = .ok (.iinc 7 1, 3) := by decide +kernel
theorem dX8_scoreOf_195 : decode cX8_scoreOf 195 = .ok (.goto (-23), 3) := by decide +kernel
theorem dX8_scoreOf_198 : decode cX8_scoreOf 198 = .ok (.iconst 0, 1) := by decide +kernel
theorem dX8_scoreOf_199 : decode cX8_scoreOf 199 = .ok (.istore 7, 2) := by decide +kernel
theorem dX8_scoreOf_201 : decode cX8_scoreOf 201 = .ok (.iload 7, 2) := by decide +kernel
theorem dX8_scoreOf_203 : decode cX8_scoreOf 203 = .ok (.aload_n 0, 1) := by decide +kernel
theorem dX8_scoreOf_204 : decode cX8_scoreOf 204 = .ok (.getfield 38, 3) := by decide +kernel
theorem dX8_scoreOf_207 : decode cX8_scoreOf 207 = .ok (.iconst 0, 1) := by decide +kernel
theorem dX8_scoreOf_208 : decode cX8_scoreOf 208 = .ok (.iaload, 1) := by decide +kernel
theorem dX8_scoreOf_209 : decode cX8_scoreOf 209 = .ok (.if_icmp .ge 38, 3) := by decide +kernel
theorem dX8_scoreOf_212 : decode cX8_scoreOf 212 = .ok (.iload 6, 2) := by decide +kernel
theorem dX8_scoreOf_214 : decode cX8_scoreOf 214 = .ok (.aload_n 0, 1) := by decide +kernel
theorem dX8_scoreOf_215 : decode cX8_scoreOf 215 = .ok (.getfield 77, 3) := by decide +kernel
theorem dX8_scoreOf_218 : decode cX8_scoreOf 218 = .ok (.iload 7, 2) := by decide +kernel
theorem dX8_scoreOf_220 : decode cX8_scoreOf 220 = .ok (.iaload, 1) := by decide +kernel
theorem dX8_scoreOf_221 : decode cX8_scoreOf 221 = .ok (.ifCond .eq 16, 3) := by decide +kernel
theorem dX8_scoreOf_224 : decode cX8_scoreOf 224 = .ok (.aload_n 0, 1) := by decide +kernel
theorem dX8_scoreOf_225 : decode cX8_scoreOf 225 = .ok (.iload 7, 2) := by decide +kernel
theorem dX8_scoreOf_227 : decode cX8_scoreOf 227 = .ok (.invokevirtual 220, 3) := by decide +kernel
theorem dX8_scoreOf_230 : decode cX8_scoreOf 230 = .ok (.ifCond .eq 7, 3) := by decide +kernel
theorem dX8_scoreOf_233 : decode cX8_scoreOf 233 = .ok (.iconst 1, 1) := by decide +kernel
theorem dX8_scoreOf_234 : decode cX8_scoreOf 234 = .ok (.goto 4, 3) := by decide +kernel
theorem dX8_scoreOf_237 : decode cX8_scoreOf 237 = .ok (.iconst 0, 1) := by decide +kernel
theorem dX8_scoreOf_238 : decode cX8_scoreOf 238 = .ok (.iadd, 1) := by decide +kernel
theorem dX8_scoreOf_239 : decode cX8_scoreOf 239 = .ok (.istore 6, 2) := by decide +kernel
theorem dX8_scoreOf_241 : decode cX8_scoreOf 241 = .ok (.iinc 7 1, 3) := by decide +kernel
theorem dX8_scoreOf_244 : decode cX8_scoreOf 244 = .ok (.goto (-43), 3) := by decide +kernel
theorem dX8_scoreOf_247 : decode cX8_scoreOf 247 = .ok (.iload 6, 2) := by decide +kernel
theorem dX8_scoreOf_249 : decode cX8_scoreOf 249 = .ok (.ireturn, 1) := by decide +kernel
set_option maxRecDepth 20000 in
theorem ggX8_isLook_X8_in : GoodIn wsX8_isLook wsX8_in := goodIn_r _ [4] (by decide +kernel) (by decide +kernel)
set_option maxRecDepth 20000 in
theorem gX8_isLook_X8_in : GoodIn wsX8_isLook (va_wsS RX8 105 yX8_in wsX8_in) := goodIn_app (goodIn_of _ (by decide +kernel)) ggX8_isLook_X8_in
theorem dX8_isLook_0 : decode cX8_isLook 0 = .ok (.iload_n 0, 1) := by decide +kernel
theorem dX8_isLook_1 : decode cX8_isLook 1 = .ok (.iconst 0, 1) := by decide +kernel
theorem dX8_isLook_2 : decode cX8_isLook 2 = .ok (.bipush 63, 2) := by decide +kernel
theorem dX8_isLook_4 : decode cX8_isLook 4 = .ok (.invokestatic 105, 3) := by decide +kernel
theorem dX8_isLook_7 : decode cX8_isLook 7 = .ok (.ireturn, 1) := by decide +kernel
set_option maxRecDepth 20000 in
theorem ggX8_fits_X8_isThere : GoodIn wsX8_fits wsX8_isThere := goodIn_r _ [7, 8, 9, 10, 6, 11, 35, 36, 37, 38, 39, 40, 41, 42, 43, 44, 45, 46, 47, 48, 49, 50, 51, 52, 53, 54, 55, 56, 57, 58, 59, 60, 61, 62, 63, 64, 65, 66, 67, 68, 69, 70, 71, 72, 73, 74, 75, 76, 77, 78] (by decide +kernel) (by decide +kernel)
set_option maxRecDepth 20000 in
theorem gX8_fits_X8_isThere : GoodIn wsX8_fits (wsV RX8 200 RX8 yX8_isThere wsX8_isThere) := goodIn_app (goodIn_of _ (by decide +kernel)) ggX8_fits_X8_isThere
set_option maxRecDepth 20000 in
theorem ggX8_fits_X8_isLook : GoodIn wsX8_fits wsX8_isLook := goodIn_r _ [14, 9, 10, 6, 11] (by decide +kernel) (by decide +kernel)
set_option maxRecDepth 20000 in
theorem gX8_fits_X8_isLook : GoodIn wsX8_fits (va_wsS RX8 223 yX8_isLook wsX8_isLook) := goodIn_app (goodIn_of _ (by decide +kernel)) ggX8_fits_X8_isLook
set_option maxRecDepth 20000 in
theorem ggX8_fits_X8_isNotch : GoodIn wsX8_fits wsX8_isNotch := goodIn_r _ [18, 19, 9, 10, 6, 11, 35, 36, 37, 38, 39, 40, 41, 42, 43, 44, 45, 46, 47, 48, 49, 50, 51, 52, 53, 54, 55, 56, 57, 58, 59, 60, 61, 62, 63, 64, 65, 66, 67, 68, 69, 70, 71, 72, 73, 74, 75, 76, 77, 78] (by decide +kernel) (by decide +kernel)
set_option maxRecDepth 20000 in
theorem gX8_fits_X8_isNotch : GoodIn wsX8_fits (wsV RX8 226 RX8 yX8_isNotch wsX8_isNotch) := goodIn_app (goodIn_of _ (by decide +kernel)) ggX8_fits_X8_isNotch
set_option maxRecDepth 20000 in
theorem ggX8_fits_X8_isPeak : GoodIn wsX8_fits wsX8_isPeak := goodIn_r _ [23, 24, 9, 10, 6, 11, 35, 36, 37, 38, 39, 40, 41, 42, 43, 44, 45, 46, 47, 48, 49, 50, 51, 52, 53, 54, 55, 56, 57, 58, 59, 60, 61, 62, 63, 64, 65, 66, 67, 68, 69, 70, 71, 72, 73, 74, 75, 76, 77, 78] (by decide +kernel) (by decide +kernel)
set_option maxRecDepth 20000 in
theorem gX8_fits_X8_isPeak : GoodIn wsX8_fits (wsV RX8 169 RX8 yX8_isPeak wsX8_isPeak) := goodIn_app (goodIn_of _ (by decide +kernel)) ggX8_fits_X8_isPeak
set_option maxRecDepth 20000 in
theorem ggX8_fits_X8_isFit : GoodIn wsX8_fits wsX8_isFit := goodIn_r _ [28, 29, 19, 30, 31, 32, 33, 6, 34, 35, 36, 37, 38, 39, 40, 41, 42, 43, 44, 45, 46, 47, 48, 49, 50, 51, 52, 53, 54, 55, 56, 57, 58, 59, 60, 61, 62, 63, 64, 65, 66, 67, 68, 69, 70, 71, 72, 73, 74, 75, 76, 77, 78] (by decide +kernel) (by decide +kernel)
set_option maxRecDepth 20000 in
theorem gX8_fits_X8_isFit : GoodIn wsX8_fits (wsV RX8 217 RX8 yX8_isFit wsX8_isFit) := goodIn_app (goodIn_of _ (by decide +kernel)) ggX8_fits_X8_isFit
theorem dX8_fits_0 : decode cX8_fits 0 = .ok (.aload_n 0, 1) := by decide +kernel
theorem dX8_fits_1 : decode cX8_fits 1 = .ok (.iconst 0, 1) := by decide +kernel
theorem dX8_fits_2 : decode cX8_fits 2 = .ok (.putfield 98, 3) := by decide +kernel
theorem dX8_fits_5 : decode cX8_fits 5 = .ok (.aload_n 0, 1) := by decide +kernel
theorem dX8_fits_6 : decode cX8_fits 6 = .ok (.iload_n 1, 1) := by decide +kernel
theorem dX8_fits_7 : decode cX8_fits 7 = .ok (.iload_n 2, 1) := by decide +kernel
theorem dX8_fits_8 : decode cX8_fits 8 = .ok (.invokevirtual 200, 3) := by decide +kernel
theorem dX8_fits_11 : decode cX8_fits 11 = .ok (.ifCond .eq 28, 3) := by decide +kernel
theorem dX8_fits_14 : decode cX8_fits 14 = .ok (.iload_n 3, 1) := by decide +kernel
theorem dX8_fits_15 : decode cX8_fits 15 = .ok (.invokestatic 223, 3) := by decide +kernel
theorem dX8_fits_18 : decode cX8_fits 18 = .ok (.ifCond .eq 21, 3) := by decide +kernel
theorem dX8_fits_21 : decode cX8_fits 21 = .ok (.aload_n 0, 1) := by decide +kernel
theorem dX8_fits_22 : decode cX8_fits 22 = .ok (.iload 4, 2) := by decide +kernel
theorem dX8_fits_24 : decode cX8_fits 24 = .ok (.invokevirtual 226, 3) := by decide +kernel
theorem dX8_fits_27 : decode cX8_fits 27 = .ok (.ifCond .eq 12, 3) := by decide +kernel
theorem dX8_fits_30 : decode cX8_fits 30 = .ok (.aload_n 0, 1) := by decide +kernel
theorem dX8_fits_31 : decode cX8_fits 31 = .ok (.iload 5, 2) := by decide +kernel
theorem dX8_fits_33 : decode cX8_fits 33 = .ok (.invokevirtual 169, 3) := by decide +kernel
theorem dX8_fits_36 : decode cX8_fits 36 = .ok (.ifCond .ne 5, 3) := by decide +kernel
theorem dX8_fits_39 : decode cX8_fits 39 = .ok (.iconst (-1), 1) := by decide +kernel
theorem dX8_fits_40 : decode cX8_fits 40 = .ok (.ireturn, 1) := by decide +kernel
theorem dX8_fits_41 : decode cX8_fits 41 = .ok (.bipush 8, 2) := by decide +kernel
theorem dX8_fits_43 : decode cX8_fits 43 = .ok (.iload_n 1, 1) := by decide +kernel
theorem dX8_fits_44 : decode cX8_fits 44 = .ok (.imul, 1) := by decide +kernel
theorem dX8_fits_45 : decode cX8_fits 45 = .ok (.iload_n 2, 1) := by decide +kernel
theorem dX8_fits_46 : decode cX8_fits 46 = .ok (.iadd, 1) := by decide +kernel
theorem dX8_fits_47 : decode cX8_fits 47 = .ok (.istore 6, 2) := by decide +kernel
theorem dX8_fits_49 : decode cX8_fits 49 = .ok (.aload_n 0, 1) := by decide +kernel
theorem dX8_fits_50 : decode cX8_fits 50 = .ok (.getfield 29, 3) := by decide +kernel
theorem dX8_fits_53 : decode cX8_fits 53 = .ok (.iload 6, 2) := by decide +kernel
theorem dX8_fits_55 : decode cX8_fits 55 = .ok (.iaload, 1) := by decide +kernel
theorem dX8_fits_56 : decode cX8_fits 56 = .ok (.iload 5, 2) := by decide +kernel
theorem dX8_fits_58 : decode cX8_fits 58 = .ok (.ishr, 1) := by decide +kernel
theorem dX8_fits_59 : decode cX8_fits 59 = .ok (.iconst 1, 1) := by decide +kernel
theorem dX8_fits_60 : decode cX8_fits 60 = .ok (.iand, 1) := by decide +kernel
theorem dX8_fits_61 : decode cX8_fits 61 = .ok (.iconst 1, 1) := by decide +kernel
theorem dX8_fits_62 : decode cX8_fits 62 = .ok (.if_icmp .ne 21, 3) := by decide +kernel
theorem dX8_fits_65 : decode cX8_fits 65 = .ok (.aload_n 0, 1) := by decide +kernel
theorem dX8_fits_66 : decode cX8_fits 66 = .ok (.iload 6, 2) := by decide +kernel
theorem dX8_fits_68 : decode cX8_fits 68 = .ok (.iload_n 3, 1) := by decide +kernel
theorem dX8_fits_69 : decode cX8_fits 69 = .ok (.iload 4, 2) := by decide +kernel
theorem dX8_fits_71 : decode cX8_fits 71 = .ok (.iload 5, 2) := by decide +kernel
theorem dX8_fits_73 : decode cX8_fits 73 = .ok (.invokevirtual 217, 3) := by decide +kernel
theorem dX8_fits_76 : decode cX8_fits 76 = .ok (.ifCond .eq 7, 3) := by decide +kernel
theorem dX8_fits_79 : decode cX8_fits 79 = .ok (.iconst 1, 1) := by decide +kernel
theorem dX8_fits_80 : decode cX8_fits 80 = .ok (.goto 4, 3) := by decide +kernel
theorem dX8_fits_83 : decode cX8_fits 83 = .ok (.iconst 0, 1) := by decide +kernel
theorem dX8_fits_84 : decode cX8_fits 84 = .ok (.ireturn, 1) := by decide +kernel
set_option maxRecDepth 20000 in
theorem ggX8_score_X8_isThere : GoodIn wsX8_score wsX8_isThere := goodIn_r _ [6, 7, 8, 9, 5, 10, 44, 45, 46, 47, 48, 49, 50, 51, 52, 53, 54, 55, 56, 57, 58, 59, 60, 61, 62, 63, 64, 65, 66, 67, 68, 69, 70, 71, 72, 73, 74, 75, 76, 77, 78, 79, 80, 81, 82, 83, 84, 85, 86, 87] (by decide +kernel) (by decide +kernel)
set_option maxRecDepth 20000 in
theorem gX8_score_X8_isThere : GoodIn wsX8_score (wsV RX8 200 RX8 yX8_isThere wsX8_isThere) := goodIn_app (goodIn_of _ (by decide +kernel)) ggX8_score_X8_isThere
set_option maxRecDepth 20000 in
theorem ggX8_score_X8_isLook : GoodIn wsX8_score wsX8_isLook := goodIn_r _ [13, 8, 9, 5, 10] (by decide +kernel) (by decide +kernel)
set_option maxRecDepth 20000 in
theorem gX8_score_X8_isLook : GoodIn wsX8_score (va_wsS RX8 223 yX8_isLook wsX8_isLook) := goodIn_app (goodIn_of _ (by decide +kernel)) ggX8_score_X8_isLook
set_option maxRecDepth 20000 in
theorem ggX8_score_X8_scoreOf : GoodIn wsX8_score wsX8_scoreOf := goodIn_r _ [17, 18, 19, 20, 21, 22, 23, 24, 25, 26, 5, 27, 28, 29, 30, 31, 32, 33, 34, 35, 36, 37, 38, 39, 40, 41, 42, 43, 44, 45, 46, 47, 48, 49, 50, 51, 52, 53, 54, 55, 56, 57, 58, 59, 60, 61, 62, 63, 64, 65, 66, 67, 68, 69, 70, 71, 72, 73, 74, 75, 76, 77, 78, 79, 80, 81, 82, 83, 84, 85, 86, 87] (by decide +kernel) (by decide +kernel)
set_option maxRecDepth 20000 in
theorem gX8_score_X8_scoreOf : GoodIn wsX8_score (wsV RX8 229 RX8 yX8_scoreOf wsX8_scoreOf) := goodIn_app (goodIn_of _ (by decide +kernel)) ggX8_score_X8_scoreOf
theorem dX8_score_0 : decode cX8_score 0 = .ok (.aload_n 0, 1) := by decide +kernel
theorem dX8_score_1 : decode cX8_score 1 = .ok (.iconst 0, 1) := by decide +kernel
theorem dX8_score_2 : decode cX8_score 2 = .ok (.putfield 98, 3) := by decide +kernel
theorem dX8_score_5 : decode cX8_score 5 = .ok (.aload_n 0, 1) := by decide +kernel
theorem dX8_score_6 : decode cX8_score 6 = .ok (.iload_n 1, 1) := by decide +kernel
theorem dX8_score_7 : decode cX8_score 7 = .ok (.iload_n 2, 1) := by decide +kernel
theorem dX8_score_8 : decode cX8_score 8 = .ok (.invokevirtual 200, 3) := by decide +kernel
theorem dX8_score_11 : decode cX8_score 11 = .ok (.ifCond .eq 28, 3) := by decide +kernel
theorem dX8_score_14 : decode cX8_score 14 = .ok (.iload_n 3, 1) := by decide +kernel
theorem dX8_score_15 : decode cX8_score 15 = .ok (.invokestatic 223, 3) := by decide +kernel
theorem dX8_score_18 : decode cX8_score 18 = .ok (.ifCond .eq 21, 3) := by decide +kernel
theorem dX8_score_21 : decode cX8_score 21 = .ok (.aload_n 0, 1) := by decide +kernel
theorem dX8_score_22 : decode cX8_score 22 = .ok (.bipush 8, 2) := by decide +kernel
theorem dX8_score_24 : decode cX8_score 24 = .ok (.iload_n 1, 1) := by decide +kernel
theorem dX8_score_25 : decode cX8_score 25 = .ok (.imul, 1) := by decide +kernel
theorem dX8_score_26 : decode cX8_score 26 = .ok (.iload_n 2, 1) := by decide +kernel
theorem dX8_score_27 : decode cX8_score 27 = .ok (.iadd, 1) := by decide +kernel
theorem dX8_score_28 : decode cX8_score 28 = .ok (.iload_n 3, 1) := by decide +kernel
theorem dX8_score_29 : decode cX8_score 29 = .ok (.bipush (-9), 2) := by decide +kernel
theorem dX8_score_31 : decode cX8_score 31 = .ok (.bipush (-9), 2) := by decide +kernel
theorem dX8_score_33 : decode cX8_score 33 = .ok (.invokevirtual 229, 3) := by decide +kernel
theorem dX8_score_36 : decode cX8_score 36 = .ok (.goto 4, 3) := by decide +kernel
theorem dX8_score_39 : decode cX8_score 39 = .ok (.iconst (-1), 1) := by decide +kernel
theorem dX8_score_40 : decode cX8_score 40 = .ok (.ireturn, 1) := by decide +kernel
set_option maxRecDepth 20000 in
theorem ggX8_wholeAt_X8_scoreOf : GoodIn wsX8_wholeAt wsX8_scoreOf := goodIn_r _ [7, 1, 8, 9, 10, 11, 12, 13, 14, 15, 6, 16, 17, 18, 19, 20, 21, 22, 23, 24, 25, 26, 27, 28, 29, 30, 31, 32, 33, 34, 35, 36, 37, 38, 39, 40, 41, 42, 43, 44, 45, 46, 47, 48, 49, 50, 51, 52, 53, 54, 55, 56, 57, 58, 59, 60, 61, 62, 63, 64, 65, 66, 67, 68, 69, 70, 71, 72, 73, 74, 75, 76] (by decide +kernel) (by decide +kernel)
set_option maxRecDepth 20000 in
theorem gX8_wholeAt_X8_scoreOf : GoodIn wsX8_wholeAt (wsV RX8 229 RX8 yX8_scoreOf wsX8_scoreOf) := goodIn_app (goodIn_of _ (by decide +kernel)) ggX8_wholeAt_X8_scoreOf
theorem dX8_wholeAt_0 : decode cX8_wholeAt 0 = .ok (.iload_n 2, 1) := by decide +kernel
theorem dX8_wholeAt_1 : decode cX8_wholeAt 1 = .ok (.bipush (-9), 2) := by decide +kernel
theorem dX8_wholeAt_3 : decode cX8_wholeAt 3 = .ok (.if_icmp .ne 12, 3) := by decide +kernel
theorem dX8_wholeAt_6 : decode cX8_wholeAt 6 = .ok (.aload_n 0, 1) := by decide +kernel
theorem dX8_wholeAt_7 : decode cX8_wholeAt 7 = .ok (.getfield 38, 3) := by decide +kernel
theorem dX8_wholeAt_10 : decode cX8_wholeAt 10 = .ok (.iconst 0, 1) := by decide +kernel
theorem dX8_wholeAt_11 : decode cX8_wholeAt 11 = .ok (.iaload, 1) := by decide +kernel
theorem dX8_wholeAt_12 : decode cX8_wholeAt 12 = .ok (.goto 11, 3) := by decide +kernel
theorem dX8_wholeAt_15 : decode cX8_wholeAt 15 = .ok (.aload_n 0, 1) := by decide +kernel
theorem dX8_wholeAt_16 : decode cX8_wholeAt 16 = .ok (.getfield 38, 3) := by decide +kernel
theorem dX8_wholeAt_19 : decode cX8_wholeAt 19 = .ok (.iconst 0, 1) := by decide +kernel
theorem dX8_wholeAt_20 : decode cX8_wholeAt 20 = .ok (.iaload, 1) := by decide +kernel
theorem dX8_wholeAt_21 : decode cX8_wholeAt 21 = .ok (.iconst 1, 1) := by decide +kernel
theorem dX8_wholeAt_22 : decode cX8_wholeAt 22 = .ok (.isub, 1) := by decide +kernel
theorem dX8_wholeAt_23 : decode cX8_wholeAt 23 = .ok (.istore_n 3, 1) := by decide +kernel
theorem dX8_wholeAt_24 : decode cX8_wholeAt 24 = .ok (.iconst 0, 1) := by decide +kernel
theorem dX8_wholeAt_25 : decode cX8_wholeAt 25 = .ok (.istore 4, 2) := by decide +kernel
theorem dX8_wholeAt_27 : decode cX8_wholeAt 27 = .ok (.iconst 0, 1) := by decide +kernel
theorem dX8_wholeAt_28 : decode cX8_wholeAt 28 = .ok (.istore 5, 2) := by decide +kernel
theorem dX8_wholeAt_30 : decode cX8_wholeAt 30 = .ok (.iload 5, 2) := by decide +kernel
theorem dX8_wholeAt_32 : decode cX8_wholeAt 32 = .ok (.sipush 4096, 3) := by decide +kernel
theorem dX8_wholeAt_35 : decode cX8_wholeAt 35 = .ok (.if_icmp .ge 55, 3) := by decide +kernel
theorem dX8_wholeAt_38 : decode cX8_wholeAt 38 = .ok (.aload_n 0, 1) := by decide +kernel
theorem dX8_wholeAt_39 : decode cX8_wholeAt 39 = .ok (.getfield 25, 3) := by decide +kernel
theorem dX8_wholeAt_42 : decode cX8_wholeAt 42 = .ok (.iload 5, 2) := by decide +kernel
theorem dX8_wholeAt_44 : decode cX8_wholeAt 44 = .ok (.bipush 64, 2) := by decide +kernel
theorem dX8_wholeAt_46 : decode cX8_wholeAt 46 = .ok (.idiv, 1) := by decide +kernel
theorem dX8_wholeAt_47 : decode cX8_wholeAt 47 = .ok (.baload, 1) := by decide +kernel
theorem dX8_wholeAt_48 : decode cX8_wholeAt 48 = .ok (.ifCond .eq 36, 3) := by decide +kernel
theorem dX8_wholeAt_51 : decode cX8_wholeAt 51 = .ok (.aload_n 0, 1) := by decide +kernel
theorem dX8_wholeAt_52 : decode cX8_wholeAt 52 = .ok (.iload 5, 2) := by decide +kernel
theorem dX8_wholeAt_54 : decode cX8_wholeAt 54 = .ok (.bipush 64, 2) := by decide +kernel
theorem dX8_wholeAt_56 : decode cX8_wholeAt 56 = .ok (.idiv, 1) := by decide +kernel
theorem dX8_wholeAt_57 : decode cX8_wholeAt 57 = .ok (.iload 5, 2) := by decide +kernel
theorem dX8_wholeAt_59 : decode cX8_wholeAt 59 = .ok (.bipush 64, 2) := by decide +kernel
theorem dX8_wholeAt_61 : decode cX8_wholeAt 61 = .ok (.irem, 1) := by decide +kernel
theorem dX8_wholeAt_62 : decode cX8_wholeAt 62 = .ok (.iload_n 2, 1) := by decide +kernel
theorem dX8_wholeAt_63 : decode cX8_wholeAt 63 = .ok (.bipush (-9), 2) := by decide +kernel
theorem dX8_wholeAt_65 : decode cX8_wholeAt 65 = .ok (.invokevirtual 229, 3) := by decide +kernel
theorem dX8_wholeAt_68 : decode cX8_wholeAt 68 = .ok (.iload_n 3, 1) := by decide +kernel
theorem dX8_wholeAt_69 : decode cX8_wholeAt 69 = .ok (.if_icmp .ne 15, 3) := by decide +kernel
theorem dX8_wholeAt_72 : decode cX8_wholeAt 72 = .ok (.iload 4, 2) := by decide +kernel
theorem dX8_wholeAt_74 : decode cX8_wholeAt 74 = .ok (.iload_n 1, 1) := by decide +kernel
theorem dX8_wholeAt_75 : decode cX8_wholeAt 75 = .ok (.if_icmp .ne 6, 3) := by decide +kernel
theorem dX8_wholeAt_78 : decode cX8_wholeAt 78 = .ok (.iload 5, 2) := by decide +kernel
theorem dX8_wholeAt_80 : decode cX8_wholeAt 80 = .ok (.ireturn, 1) := by decide +kernel
theorem dX8_wholeAt_81 : decode cX8_wholeAt 81 = .ok (.iinc 4 1, 3) := by decide +kernel
theorem dX8_wholeAt_84 : decode cX8_wholeAt 84 = .ok (.iinc 5 1, 3) := by decide +kernel
theorem dX8_wholeAt_87 : decode cX8_wholeAt 87 = .ok (.goto (-57), 3) := by decide +kernel
theorem dX8_wholeAt_90 : decode cX8_wholeAt 90 = .ok (.iload_n 1, 1) := by decide +kernel
theorem dX8_wholeAt_91 : decode cX8_wholeAt 91 = .ok (.ifCond .ge 8, 3) := by decide +kernel
theorem dX8_wholeAt_94 : decode cX8_wholeAt 94 = .ok (.iload 4, 2) := by decide +kernel
theorem dX8_wholeAt_96 : decode cX8_wholeAt 96 = .ok (.goto 5, 3) := by decide +kernel
theorem dX8_wholeAt_99 : decode cX8_wholeAt 99 = .ok (.bipush (-9), 2) := by decide +kernel
theorem dX8_wholeAt_101 : decode cX8_wholeAt 101 = .ok (.ireturn, 1) := by decide +kernel
set_option maxRecDepth 20000 in
theorem ggX8_wholes_X8_wholeAt : GoodIn wsX8_wholes wsX8_wholeAt := goodIn_r _ [6, 7, 8, 9, 10, 11, 5, 12, 13, 14, 15, 16, 17, 18, 19, 20, 21, 22, 23, 24, 25, 26, 27, 28, 29, 30, 31, 32, 33, 34, 35, 36, 37, 38, 39, 40, 41, 42, 43, 44, 45, 46, 47, 48, 49, 50, 51, 52, 53, 54, 55, 56, 57, 58, 59, 60, 61, 62, 63, 64, 65, 66, 67, 68, 69, 70, 71, 72, 73, 74, 75, 76, 77, 78, 79, 80, 81] (by decide +kernel) (by decide +kernel)
set_option maxRecDepth 20000 in
theorem gX8_wholes_X8_wholeAt : GoodIn wsX8_wholes (wsV RX8 232 RX8 yX8_wholeAt wsX8_wholeAt) := goodIn_app (goodIn_of _ (by decide +kernel)) ggX8_wholes_X8_wholeAt
theorem dX8_wholes_0 : decode cX8_wholes 0 = .ok (.aload_n 0, 1) := by decide +kernel
theorem dX8_wholes_1 : decode cX8_wholes 1 = .ok (.iconst 0, 1) := by decide +kernel
theorem dX8_wholes_2 : decode cX8_wholes 2 = .ok (.putfield 98, 3) := by decide +kernel
theorem dX8_wholes_5 : decode cX8_wholes 5 = .ok (.aload_n 0, 1) := by decide +kernel
theorem dX8_wholes_6 : decode cX8_wholes 6 = .ok (.iconst (-1), 1) := by decide +kernel
theorem dX8_wholes_7 : decode cX8_wholes 7 = .ok (.bipush (-9), 2) := by decide +kernel
theorem dX8_wholes_9 : decode cX8_wholes 9 = .ok (.invokevirtual 232, 3) := by decide +kernel
theorem dX8_wholes_12 : decode cX8_wholes 12 = .ok (.ireturn, 1) := by decide +kernel
theorem dX8_partOf_0 : decode cX8_partOf 0 = .ok (.iload_n 1, 1) := by decide +kernel
theorem dX8_partOf_1 : decode cX8_partOf 1 = .ok (.ifCond .ne 13, 3) := by decide +kernel
theorem dX8_partOf_4 : decode cX8_partOf 4 = .ok (.iload_n 0, 1) := by decide +kernel
theorem dX8_partOf_5 : decode cX8_partOf 5 = .ok (.bipush 64, 2) := by decide +kernel
theorem dX8_partOf_7 : decode cX8_partOf 7 = .ok (.idiv, 1) := by decide +kernel
theorem dX8_partOf_8 : decode cX8_partOf 8 = .ok (.bipush 8, 2) := by decide +kernel
theorem dX8_partOf_10 : decode cX8_partOf 10 = .ok (.idiv, 1) := by decide +kernel
theorem dX8_partOf_11 : decode cX8_partOf 11 = .ok (.goto 22, 3) := by decide +kernel
theorem dX8_partOf_14 : decode cX8_partOf 14 = .ok (.iload_n 1, 1) := by decide +kernel
theorem dX8_partOf_15 : decode cX8_partOf 15 = .ok (.iconst 1, 1) := by decide +kernel
theorem dX8_partOf_16 : decode cX8_partOf 16 = .ok (.if_icmp .ne 13, 3) := by decide +kernel
theorem dX8_partOf_19 : decode cX8_partOf 19 = .ok (.iload_n 0, 1) := by decide +kernel
theorem dX8_partOf_20 : decode cX8_partOf 20 = .ok (.bipush 64, 2) := by decide +kernel
theorem dX8_partOf_22 : decode cX8_partOf 22 = .ok (.idiv, 1) := by decide +kernel
theorem dX8_partOf_23 : decode cX8_partOf 23 = .ok (.bipush 8, 2) := by decide +kernel
theorem dX8_partOf_25 : decode cX8_partOf 25 = .ok (.irem, 1) := by decide +kernel
theorem dX8_partOf_26 : decode cX8_partOf 26 = .ok (.goto 7, 3) := by decide +kernel
theorem dX8_partOf_29 : decode cX8_partOf 29 = .ok (.iload_n 0, 1) := by decide +kernel
theorem dX8_partOf_30 : decode cX8_partOf 30 = .ok (.bipush 64, 2) := by decide +kernel
theorem dX8_partOf_32 : decode cX8_partOf 32 = .ok (.irem, 1) := by decide +kernel
theorem dX8_partOf_33 : decode cX8_partOf 33 = .ok (.ireturn, 1) := by decide +kernel
set_option maxRecDepth 20000 in
theorem ggX8_whole_X8_in : GoodIn wsX8_whole wsX8_in := goodIn_r _ [5] (by decide +kernel) (by decide +kernel)
set_option maxRecDepth 20000 in
theorem gX8_whole_X8_in : GoodIn wsX8_whole (va_wsS RX8 105 yX8_in wsX8_in) := goodIn_app (goodIn_of _ (by decide +kernel)) ggX8_whole_X8_in
set_option maxRecDepth 20000 in
theorem ggX8_whole_X8_wholeAt : GoodIn wsX8_whole wsX8_wholeAt := goodIn_r _ [9, 10, 11, 12, 13, 14, 4, 15, 16, 17, 18, 19, 20, 21, 22, 23, 24, 25, 26, 27, 28, 29, 30, 31, 32, 33, 34, 35, 36, 37, 38, 39, 40, 44, 45, 46, 47, 48, 49, 50, 51, 52, 53, 54, 55, 56, 57, 58, 59, 60, 61, 62, 63, 64, 65, 66, 67, 68, 69, 70, 71, 72, 73, 74, 75, 76, 77, 78, 79, 80, 81, 82, 83, 84, 85, 86, 87] (by decide +kernel) (by decide +kernel)
set_option maxRecDepth 20000 in
theorem gX8_whole_X8_wholeAt : GoodIn wsX8_whole (wsV RX8 232 RX8 yX8_wholeAt wsX8_wholeAt) := goodIn_app (goodIn_of _ (by decide +kernel)) ggX8_whole_X8_wholeAt
set_option maxRecDepth 20000 in
theorem ggX8_whole_X8_partOf : GoodIn wsX8_whole wsX8_partOf := goodIn_r _ [43] (by decide +kernel) (by decide +kernel)
set_option maxRecDepth 20000 in
theorem gX8_whole_X8_partOf : GoodIn wsX8_whole (va_wsS RX8 235 yX8_partOf wsX8_partOf) := goodIn_app (goodIn_of _ (by decide +kernel)) ggX8_whole_X8_partOf
theorem dX8_whole_0 : decode cX8_whole 0 = .ok (.aload_n 0, 1) := by decide +kernel
theorem dX8_whole_1 : decode cX8_whole 1 = .ok (.iconst 0, 1) := by decide +kernel
theorem dX8_whole_2 : decode cX8_whole 2 = .ok (.putfield 98, 3) := by decide +kernel
theorem dX8_whole_5 : decode cX8_whole 5 = .ok (.iload_n 1, 1) := by decide +kernel
theorem dX8_whole_6 : decode cX8_whole 6 = .ok (.ifCond .lt 12, 3) := by decide +kernel
theorem dX8_whole_9 : decode cX8_whole 9 = .ok (.iload_n 2, 1) := by decide +kernel
theorem dX8_whole_10 : decode cX8_whole 10 = .ok (.iconst 0, 1) := by decide +kernel
theorem dX8_whole_11 : decode cX8_whole 11 = .ok (.iconst 2, 1) := by decide +kernel
theorem dX8_whole_12 : decode cX8_whole 12 = .ok (.invokestatic 105, 3) := by decide +kernel
theorem dX8_whole_15 : decode cX8_whole 15 = .ok (.ifCond .ne 5, 3) := by decide +kernel
theorem dX8_whole_18 : decode cX8_whole 18 = .ok (.iconst (-1), 1) := by decide +kernel
theorem dX8_whole_19 : decode cX8_whole 19 = .ok (.ireturn, 1) := by decide +kernel
theorem dX8_whole_20 : decode cX8_whole 20 = .ok (.aload_n 0, 1) := by decide +kernel
theorem dX8_whole_21 : decode cX8_whole 21 = .ok (.iload_n 1, 1) := by decide +kernel
theorem dX8_whole_22 : decode cX8_whole 22 = .ok (.bipush (-9), 2) := by decide +kernel
theorem dX8_whole_24 : decode cX8_whole 24 = .ok (.invokevirtual 232, 3) := by decide +kernel
theorem dX8_whole_27 : decode cX8_whole 27 = .ok (.istore_n 3, 1) := by decide +kernel
theorem dX8_whole_28 : decode cX8_whole 28 = .ok (.iload_n 3, 1) := by decide +kernel
theorem dX8_whole_29 : decode cX8_whole 29 = .ok (.bipush (-9), 2) := by decide +kernel
theorem dX8_whole_31 : decode cX8_whole 31 = .ok (.if_icmp .ne 8, 3) := by decide +kernel
theorem dX8_whole_34 : decode cX8_whole 34 = .ok (.bipush (-9), 2) := by decide +kernel
theorem dX8_whole_36 : decode cX8_whole 36 = .ok (.goto 8, 3) := by decide +kernel
theorem dX8_whole_39 : decode cX8_whole 39 = .ok (.iload_n 3, 1) := by decide +kernel
theorem dX8_whole_40 : decode cX8_whole 40 = .ok (.iload_n 2, 1) := by decide +kernel
theorem dX8_whole_41 : decode cX8_whole 41 = .ok (.invokestatic 235, 3) := by decide +kernel
theorem dX8_whole_44 : decode cX8_whole 44 = .ok (.ireturn, 1) := by decide +kernel
set_option maxRecDepth 20000 in
theorem ggX8_laysBest_X8_scoreOf : GoodIn wsX8_laysBest wsX8_scoreOf := goodIn_r _ [9, 10, 11, 12, 13, 14, 15, 16, 17, 18, 8, 19, 20, 21, 22, 23, 24, 25, 26, 27, 28, 29, 30, 31, 32, 33, 34, 35, 36, 37, 38, 39, 40, 41, 42, 43, 44, 45, 46, 47, 48, 49, 50, 51, 52, 53, 54, 55, 56, 57, 58, 59, 60, 61, 62, 63, 64, 65, 66, 67, 68, 69, 70, 71, 72, 73, 74, 75, 76, 77, 78, 79] (by decide +kernel) (by decide +kernel)
set_option maxRecDepth 20000 in
theorem gX8_laysBest_X8_scoreOf : GoodIn wsX8_laysBest (wsV RX8 229 RX8 yX8_scoreOf wsX8_scoreOf) := goodIn_app (goodIn_of _ (by decide +kernel)) ggX8_laysBest_X8_scoreOf
theorem dX8_laysBest_0 : decode cX8_laysBest 0 = .ok (.aload_n 0, 1) := by decide +kernel
theorem dX8_laysBest_1 : decode cX8_laysBest 1 = .ok (.iconst (-1), 1) := by decide +kernel
theorem dX8_laysBest_2 : decode cX8_laysBest 2 = .ok (.putfield 238, 3) := by decide +kernel
theorem dX8_laysBest_5 : decode cX8_laysBest 5 = .ok (.aload_n 0, 1) := by decide +kernel
theorem dX8_laysBest_6 : decode cX8_laysBest 6 = .ok (.iconst 0, 1) := by decide +kernel
theorem dX8_laysBest_7 : decode cX8_laysBest 7 = .ok (.putfield 241, 3) := by decide +kernel
theorem dX8_laysBest_10 : decode cX8_laysBest 10 = .ok (.iconst 0, 1) := by decide +kernel
theorem dX8_laysBest_11 : decode cX8_laysBest 11 = .ok (.istore_n 1, 1) := by decide +kernel
theorem dX8_laysBest_12 : decode cX8_laysBest 12 = .ok (.iload_n 1, 1) := by decide +kernel
theorem dX8_laysBest_13 : decode cX8_laysBest 13 = .ok (.bipush 64, 2) := by decide +kernel
theorem dX8_laysBest_15 : decode cX8_laysBest 15 = .ok (.if_icmp .ge 152, 3) := by decide +kernel
theorem dX8_laysBest_18 : decode cX8_laysBest 18 = .ok (.iconst (-1), 1) := by decide +kernel
theorem dX8_laysBest_19 : decode cX8_laysBest 19 = .ok (.istore_n 2, 1) := by decide +kernel
theorem dX8_laysBest_20 : decode cX8_laysBest 20 = .ok (.iconst 0, 1) := by decide +kernel
theorem dX8_laysBest_21 : decode cX8_laysBest 21 = .ok (.istore_n 3, 1) := by decide +kernel
theorem dX8_laysBest_22 : decode cX8_laysBest 22 = .ok (.iload_n 3, 1) := by decide +kernel
theorem dX8_laysBest_23 : decode cX8_laysBest 23 = .ok (.bipush 64, 2) := by decide +kernel
theorem dX8_laysBest_25 : decode cX8_laysBest 25 = .ok (.if_icmp .ge 75, 3) := by decide +kernel
theorem dX8_laysBest_28 : decode cX8_laysBest 28 = .ok (.aload_n 0, 1) := by decide +kernel
theorem dX8_laysBest_29 : decode cX8_laysBest 29 = .ok (.getfield 25, 3) := by decide +kernel
theorem dX8_laysBest_32 : decode cX8_laysBest 32 = .ok (.iload_n 1, 1) := by decide +kernel
theorem dX8_laysBest_33 : decode cX8_laysBest 33 = .ok (.baload, 1) := by decide +kernel
theorem dX8_laysBest_34 : decode cX8_laysBest 34 = .ok (.ifCond .eq 66, 3) := by decide +kernel
theorem dX8_laysBest_37 : decode cX8_laysBest 37 = .ok (.aload_n 0, 1) := by decide +kernel
theorem dX8_laysBest_38 : decode cX8_laysBest 38 = .ok (.iload_n 1, 1) := by decide +kernel
theorem dX8_laysBest_39 : decode cX8_laysBest 39 = .ok (.iload_n 3, 1) := by decide +kernel
theorem dX8_laysBest_40 : decode cX8_laysBest 40 = .ok (.bipush (-9), 2) := by decide +kernel
theorem dX8_laysBest_42 : decode cX8_laysBest 42 = .ok (.bipush (-9), 2) := by decide +kernel
theorem dX8_laysBest_44 : decode cX8_laysBest 44 = .ok (.invokevirtual 229, 3) := by decide +kernel
theorem dX8_laysBest_47 : decode cX8_laysBest 47 = .ok (.istore 4, 2) := by decide +kernel
theorem dX8_laysBest_49 : decode cX8_laysBest 49 = .ok (.aload_n 0, 1) := by decide +kernel
theorem dX8_laysBest_50 : decode cX8_laysBest 50 = .ok (.iload 4, 2) := by decide +kernel
theorem dX8_laysBest_52 : decode cX8_laysBest 52 = .ok (.aload_n 0, 1) := by decide +kernel
theorem dX8_laysBest_53 : decode cX8_laysBest 53 = .ok (.getfield 238, 3) := by decide +kernel
theorem dX8_laysBest_56 : decode cX8_laysBest 56 = .ok (.if_icmp .le 18, 3) := by decide +kernel
theorem dX8_laysBest_59 : decode cX8_laysBest 59 = .ok (.iload 4, 2) := by decide +kernel
theorem dX8_laysBest_61 : decode cX8_laysBest 61 = .ok (.iload_n 2, 1) := by decide +kernel
theorem dX8_laysBest_62 : decode cX8_laysBest 62 = .ok (.if_icmp .le 12, 3) := by decide +kernel
theorem dX8_laysBest_65 : decode cX8_laysBest 65 = .ok (.bipush 64, 2) := by decide +kernel
theorem dX8_laysBest_67 : decode cX8_laysBest 67 = .ok (.iload_n 1, 1) := by decide +kernel
theorem dX8_laysBest_68 : decode cX8_laysBest 68 = .ok (.imul, 1) := by decide +kernel
theorem dX8_laysBest_69 : decode cX8_laysBest 69 = .ok (.iload_n 3, 1) := by decide +kernel
theorem dX8_laysBest_70 : decode cX8_laysBest 70 = .ok (.iadd, 1) := by decide +kernel
theorem dX8_laysBest_71 : decode cX8_laysBest 71 = .ok (.goto 7, 3) := by decide +kernel
theorem dX8_laysBest_74 : decode cX8_laysBest 74 = .ok (.aload_n 0, 1) := by decide +kernel
theorem dX8_laysBest_75 : decode cX8_laysBest 75 = .ok (.getfield 244, 3) := by decide +kernel
theorem dX8_laysBest_78 : decode cX8_laysBest 78 = .ok (.putfield 244, 3) := by decide +kernel
theorem dX8_laysBest_81 : decode cX8_laysBest 81 = .ok (.iload 4, 2) := by decide +kernel
theorem dX8_laysBest_83 : decode cX8_laysBest 83 = .ok (.iload_n 2, 1) := by decide +kernel
theorem dX8_laysBest_84 : decode cX8_laysBest 84 = .ok (.if_icmp .le 8, 3) := by decide +kernel
theorem dX8_laysBest_87 : decode cX8_laysBest 87 = .ok (.iload 4, 2) := by decide +kernel
theorem dX8_laysBest_89 : decode cX8_laysBest 89 = .ok (.goto 4, 3) := by decide +kernel
theorem dX8_laysBest_92 : decode cX8_laysBest 92 = .ok (.iload_n 2, 1) := by decide +kernel
theorem dX8_laysBest_93 : decode cX8_laysBest 93 = .ok (.istore_n 2, 1) := by decide +kernel
theorem dX8_laysBest_94 : decode cX8_laysBest 94 = .ok (.iinc 3 1, 3) := by decide +kernel
theorem dX8_laysBest_97 : decode cX8_laysBest 97 = .ok (.goto (-75), 3) := by decide +kernel
theorem dX8_laysBest_100 : decode cX8_laysBest 100 = .ok (.aload_n 0, 1) := by decide +kernel
theorem dX8_laysBest_101 : decode cX8_laysBest 101 = .ok (.iload_n 2, 1) := by decide +kernel
theorem dX8_laysBest_102 : decode cX8_laysBest 102 = .ok (.aload_n 0, 1) := by decide +kernel
theorem dX8_laysBest_103 : decode cX8_laysBest 103 = .ok (.getfield 238, 3) := by decide +kernel
theorem dX8_laysBest_106 : decode cX8_laysBest 106 = .ok (.if_icmp .le 7, 3) := by decide +kernel
theorem dX8_laysBest_109 : decode cX8_laysBest 109 = .ok (.iconst 1, 1) := by decide +kernel
theorem dX8_laysBest_110 : decode cX8_laysBest 110 = .ok (.goto 28, 3) := by decide +kernel
theorem dX8_laysBest_113 : decode cX8_laysBest 113 = .ok (.iload_n 2, 1) := by decide +kernel
theorem dX8_laysBest_114 : decode cX8_laysBest 114 = .ok (.aload_n 0, 1) := by decide +kernel
theorem dX8_laysBest_115 : decode cX8_laysBest 115 = .ok (.getfield 238, 3) := by decide +kernel
theorem dX8_laysBest_118 : decode cX8_laysBest 118 = .ok (.if_icmp .ne 16, 3) := by decide +kernel
theorem dX8_laysBest_121 : decode cX8_laysBest 121 = .ok (.iload_n 2, 1) := by decide +kernel
theorem dX8_laysBest_122 : decode cX8_laysBest 122 = .ok (.ifCond .lt 12, 3) := by decide +kernel
theorem dX8_laysBest_125 : decode cX8_laysBest 125 = .ok (.aload_n 0, 1) := by decide +kernel
theorem dX8_laysBest_126 : decode cX8_laysBest 126 = .ok (.getfield 241, 3) := by decide +kernel
theorem dX8_laysBest_129 : decode cX8_laysBest 129 = .ok (.iconst 1, 1) := by decide +kernel
theorem dX8_laysBest_130 : decode cX8_laysBest 130 = .ok (.iadd, 1) := by decide +kernel
theorem dX8_laysBest_131 : decode cX8_laysBest 131 = .ok (.goto 7, 3) := by decide +kernel
theorem dX8_laysBest_134 : decode cX8_laysBest 134 = .ok (.aload_n 0, 1) := by decide +kernel
theorem dX8_laysBest_135 : decode cX8_laysBest 135 = .ok (.getfield 241, 3) := by decide +kernel
theorem dX8_laysBest_138 : decode cX8_laysBest 138 = .ok (.putfield 241, 3) := by decide +kernel
theorem dX8_laysBest_141 : decode cX8_laysBest 141 = .ok (.aload_n 0, 1) := by decide +kernel
theorem dX8_laysBest_142 : decode cX8_laysBest 142 = .ok (.iload_n 2, 1) := by decide +kernel
theorem dX8_laysBest_143 : decode cX8_laysBest 143 = .ok (.aload_n 0, 1) := by decide +kernel
theorem dX8_laysBest_144 : decode cX8_laysBest 144 = .ok (.getfield 238, 3) := by decide +kernel
theorem dX8_laysBest_147 : decode cX8_laysBest 147 = .ok (.if_icmp .le 7, 3) := by decide +kernel
theorem dX8_laysBest_150 : decode cX8_laysBest 150 = .ok (.iload_n 2, 1) := by decide +kernel
theorem dX8_laysBest_151 : decode cX8_laysBest 151 = .ok (.goto 7, 3) := by decide +kernel
theorem dX8_laysBest_154 : decode cX8_laysBest 154 = .ok (.aload_n 0, 1) := by decide +kernel
theorem dX8_laysBest_155 : decode cX8_laysBest 155 = .ok (.getfield 238, 3) := by decide +kernel
theorem dX8_laysBest_158 : decode cX8_laysBest 158 = .ok (.putfield 238, 3) := by decide +kernel
theorem dX8_laysBest_161 : decode cX8_laysBest 161 = .ok (.iinc 1 1, 3) := by decide +kernel
theorem dX8_laysBest_164 : decode cX8_laysBest 164 = .ok (.goto (-152), 3) := by decide +kernel
theorem dX8_laysBest_167 : decode cX8_laysBest 167 = .ok (.return_, 1) := by decide +kernel
set_option maxRecDepth 20000 in
theorem ggX8_best_X8_in : GoodIn wsX8_best wsX8_in := goodIn_r _ [7] (by decide +kernel) (by decide +kernel)
set_option maxRecDepth 20000 in
theorem gX8_best_X8_in : GoodIn wsX8_best (va_wsS RX8 105 yX8_in wsX8_in) := goodIn_app (goodIn_of _ (by decide +kernel)) ggX8_best_X8_in
set_option maxRecDepth 20000 in
theorem ggX8_best_X8_laysBest : GoodIn wsX8_best wsX8_laysBest := goodIn_r _ [11, 2, 12, 13, 3, 14, 15, 16, 6, 17, 18, 19, 20, 21, 22, 23, 24, 25, 26, 27, 28, 29, 30, 31, 32, 33, 34, 35, 36, 37, 38, 39, 40, 41, 42, 43, 47, 48, 49, 50, 51, 52, 53, 54, 55, 56, 57, 58, 59, 60, 61, 62, 63, 64, 65, 66, 67, 68, 69, 70, 71, 72, 73, 74, 75, 76, 77, 78, 79, 80, 81, 82, 83, 84, 85, 86, 87, 88, 89, 90] (by decide +kernel) (by decide +kernel)
set_option maxRecDepth 20000 in
theorem gX8_best_X8_laysBest : GoodIn wsX8_best (wsV RX8 247 RX8 yX8_laysBest wsX8_laysBest) := goodIn_app (goodIn_of _ (by decide +kernel)) ggX8_best_X8_laysBest
set_option maxRecDepth 20000 in
theorem ggX8_best_X8_partOf : GoodIn wsX8_best wsX8_partOf := goodIn_r _ [46] (by decide +kernel) (by decide +kernel)
set_option maxRecDepth 20000 in
theorem gX8_best_X8_partOf : GoodIn wsX8_best (va_wsS RX8 235 yX8_partOf wsX8_partOf) := goodIn_app (goodIn_of _ (by decide +kernel)) ggX8_best_X8_partOf
theorem dX8_best_0 : decode cX8_best 0 = .ok (.aload_n 0, 1) := by decide +kernel
theorem dX8_best_1 : decode cX8_best 1 = .ok (.iconst 0, 1) := by decide +kernel
theorem dX8_best_2 : decode cX8_best 2 = .ok (.putfield 98, 3) := by decide +kernel
theorem dX8_best_5 : decode cX8_best 5 = .ok (.iload_n 1, 1) := by decide +kernel
theorem dX8_best_6 : decode cX8_best 6 = .ok (.iconst 0, 1) := by decide +kernel
theorem dX8_best_7 : decode cX8_best 7 = .ok (.iconst 3, 1) := by decide +kernel
theorem dX8_best_8 : decode cX8_best 8 = .ok (.invokestatic 105, 3) := by decide +kernel
theorem dX8_best_11 : decode cX8_best 11 = .ok (.ifCond .ne 5, 3) := by decide +kernel
theorem dX8_best_14 : decode cX8_best 14 = .ok (.iconst (-1), 1) := by decide +kernel
theorem dX8_best_15 : decode cX8_best 15 = .ok (.ireturn, 1) := by decide +kernel
theorem dX8_best_16 : decode cX8_best 16 = .ok (.aload_n 0, 1) := by decide +kernel
theorem dX8_best_17 : decode cX8_best 17 = .ok (.invokevirtual 247, 3) := by decide +kernel
theorem dX8_best_20 : decode cX8_best 20 = .ok (.aload_n 0, 1) := by decide +kernel
theorem dX8_best_21 : decode cX8_best 21 = .ok (.getfield 238, 3) := by decide +kernel
theorem dX8_best_24 : decode cX8_best 24 = .ok (.ifCond .ge 8, 3) := by decide +kernel
theorem dX8_best_27 : decode cX8_best 27 = .ok (.bipush (-9), 2) := by decide +kernel
theorem dX8_best_29 : decode cX8_best 29 = .ok (.goto 23, 3) := by decide +kernel
theorem dX8_best_32 : decode cX8_best 32 = .ok (.iload_n 1, 1) := by decide +kernel
theorem dX8_best_33 : decode cX8_best 33 = .ok (.iconst 3, 1) := by decide +kernel
theorem dX8_best_34 : decode cX8_best 34 = .ok (.if_icmp .ne 10, 3) := by decide +kernel
theorem dX8_best_37 : decode cX8_best 37 = .ok (.aload_n 0, 1) := by decide +kernel
theorem dX8_best_38 : decode cX8_best 38 = .ok (.getfield 238, 3) := by decide +kernel
theorem dX8_best_41 : decode cX8_best 41 = .ok (.goto 11, 3) := by decide +kernel
theorem dX8_best_44 : decode cX8_best 44 = .ok (.aload_n 0, 1) := by decide +kernel
theorem dX8_best_45 : decode cX8_best 45 = .ok (.getfield 244, 3) := by decide +kernel
theorem dX8_best_48 : decode cX8_best 48 = .ok (.iload_n 1, 1) := by decide +kernel
theorem dX8_best_49 : decode cX8_best 49 = .ok (.invokestatic 235, 3) := by decide +kernel
theorem dX8_best_52 : decode cX8_best 52 = .ok (.ireturn, 1) := by decide +kernel
set_option maxRecDepth 20000 in
theorem ggX8_doubt_X8_laysBest : GoodIn wsX8_doubt wsX8_laysBest := goodIn_r _ [7, 8, 2, 9, 10, 11, 12, 13, 6, 14, 15, 16, 17, 18, 19, 20, 21, 22, 23, 24, 25, 26, 27, 28, 29, 30, 31, 32, 33, 34, 35, 36, 37, 38, 39, 40, 41, 42, 43, 44, 45, 46, 47, 48, 49, 50, 51, 52, 53, 54, 55, 56, 57, 58, 59, 60, 61, 62, 63, 64, 65, 66, 67, 68, 69, 70, 71, 72, 73, 74, 75, 76, 77, 78, 79, 80, 81, 82, 83, 84] (by decide +kernel) (by decide +kernel)
set_option maxRecDepth 20000 in
theorem gX8_doubt_X8_laysBest : GoodIn wsX8_doubt (wsV RX8 247 RX8 yX8_laysBest wsX8_laysBest) := goodIn_app (goodIn_of _ (by decide +kernel)) ggX8_doubt_X8_laysBest
theorem dX8_doubt_0 : decode cX8_doubt 0 = .ok (.aload_n 0, 1) := by decide +kernel
theorem dX8_doubt_1 : decode cX8_doubt 1 = .ok (.iconst 0, 1) := by decide +kernel
theorem dX8_doubt_2 : decode cX8_doubt 2 = .ok (.putfield 98, 3) := by decide +kernel
theorem dX8_doubt_5 : decode cX8_doubt 5 = .ok (.aload_n 0, 1) := by decide +kernel
theorem dX8_doubt_6 : decode cX8_doubt 6 = .ok (.invokevirtual 247, 3) := by decide +kernel
theorem dX8_doubt_9 : decode cX8_doubt 9 = .ok (.aload_n 0, 1) := by decide +kernel
theorem dX8_doubt_10 : decode cX8_doubt 10 = .ok (.getfield 241, 3) := by decide +kernel
theorem dX8_doubt_13 : decode cX8_doubt 13 = .ok (.ireturn, 1) := by decide +kernel
set_option maxRecDepth 20000 in
theorem ggX8_odd_X8_wholeAt : GoodIn wsX8_odd wsX8_wholeAt := goodIn_r _ [7, 2, 8, 9, 10, 11, 6, 12, 13, 14, 15, 16, 17, 18, 19, 20, 21, 22, 23, 24, 25, 26, 27, 28, 29, 30, 31, 32, 33, 34, 35, 36, 37, 38, 39, 40, 41, 42, 43, 44, 45, 46, 47, 48, 49, 50, 51, 52, 53, 54, 55, 56, 57, 58, 59, 60, 61, 62, 63, 64, 65, 66, 67, 68, 69, 70, 71, 72, 73, 74, 75, 76, 77, 78, 79, 80, 81] (by decide +kernel) (by decide +kernel)
set_option maxRecDepth 20000 in
theorem gX8_odd_X8_wholeAt : GoodIn wsX8_odd (wsV RX8 232 RX8 yX8_wholeAt wsX8_wholeAt) := goodIn_app (goodIn_of _ (by decide +kernel)) ggX8_odd_X8_wholeAt
theorem dX8_odd_0 : decode cX8_odd 0 = .ok (.aload_n 0, 1) := by decide +kernel
theorem dX8_odd_1 : decode cX8_odd 1 = .ok (.iconst 0, 1) := by decide +kernel
theorem dX8_odd_2 : decode cX8_odd 2 = .ok (.putfield 98, 3) := by decide +kernel
theorem dX8_odd_5 : decode cX8_odd 5 = .ok (.iconst (-1), 1) := by decide +kernel
theorem dX8_odd_6 : decode cX8_odd 6 = .ok (.istore_n 1, 1) := by decide +kernel
theorem dX8_odd_7 : decode cX8_odd 7 = .ok (.bipush (-9), 2) := by decide +kernel
theorem dX8_odd_9 : decode cX8_odd 9 = .ok (.istore_n 2, 1) := by decide +kernel
theorem dX8_odd_10 : decode cX8_odd 10 = .ok (.iconst 0, 1) := by decide +kernel
theorem dX8_odd_11 : decode cX8_odd 11 = .ok (.istore_n 3, 1) := by decide +kernel
theorem dX8_odd_12 : decode cX8_odd 12 = .ok (.iload_n 3, 1) := by decide +kernel
theorem dX8_odd_13 : decode cX8_odd 13 = .ok (.aload_n 0, 1) := by decide +kernel
theorem dX8_odd_14 : decode cX8_odd 14 = .ok (.getfield 38, 3) := by decide +kernel
theorem dX8_odd_17 : decode cX8_odd 17 = .ok (.iconst 0, 1) := by decide +kernel
theorem dX8_odd_18 : decode cX8_odd 18 = .ok (.iaload, 1) := by decide +kernel
theorem dX8_odd_19 : decode cX8_odd 19 = .ok (.if_icmp .ge 42, 3) := by decide +kernel
theorem dX8_odd_22 : decode cX8_odd 22 = .ok (.aload_n 0, 1) := by decide +kernel
theorem dX8_odd_23 : decode cX8_odd 23 = .ok (.iconst (-1), 1) := by decide +kernel
theorem dX8_odd_24 : decode cX8_odd 24 = .ok (.iload_n 3, 1) := by decide +kernel
theorem dX8_odd_25 : decode cX8_odd 25 = .ok (.invokevirtual 232, 3) := by decide +kernel
theorem dX8_odd_28 : decode cX8_odd 28 = .ok (.istore 4, 2) := by decide +kernel
theorem dX8_odd_30 : decode cX8_odd 30 = .ok (.iload 4, 2) := by decide +kernel
theorem dX8_odd_32 : decode cX8_odd 32 = .ok (.iload_n 1, 1) := by decide +kernel
theorem dX8_odd_33 : decode cX8_odd 33 = .ok (.if_icmp .le 7, 3) := by decide +kernel
theorem dX8_odd_36 : decode cX8_odd 36 = .ok (.iload_n 3, 1) := by decide +kernel
theorem dX8_odd_37 : decode cX8_odd 37 = .ok (.goto 4, 3) := by decide +kernel
theorem dX8_odd_40 : decode cX8_odd 40 = .ok (.iload_n 2, 1) := by decide +kernel
theorem dX8_odd_41 : decode cX8_odd 41 = .ok (.istore_n 2, 1) := by decide +kernel
theorem dX8_odd_42 : decode cX8_odd 42 = .ok (.iload 4, 2) := by decide +kernel
theorem dX8_odd_44 : decode cX8_odd 44 = .ok (.iload_n 1, 1) := by decide +kernel
theorem dX8_odd_45 : decode cX8_odd 45 = .ok (.if_icmp .le 8, 3) := by decide +kernel
theorem dX8_odd_48 : decode cX8_odd 48 = .ok (.iload 4, 2) := by decide +kernel
theorem dX8_odd_50 : decode cX8_odd 50 = .ok (.goto 4, 3) := by decide +kernel
theorem dX8_odd_53 : decode cX8_odd 53 = .ok (.iload_n 1, 1) := by decide +kernel
theorem dX8_odd_54 : decode cX8_odd 54 = .ok (.istore_n 1, 1) := by decide +kernel
theorem dX8_odd_55 : decode cX8_odd 55 = .ok (.iinc 3 1, 3) := by decide +kernel
theorem dX8_odd_58 : decode cX8_odd 58 = .ok (.goto (-46), 3) := by decide +kernel
theorem dX8_odd_61 : decode cX8_odd 61 = .ok (.iload_n 2, 1) := by decide +kernel
theorem dX8_odd_62 : decode cX8_odd 62 = .ok (.ireturn, 1) := by decide +kernel
theorem dX8_remembers_0 : decode cX8_remembers 0 = .ok (.aload_n 0, 1) := by decide +kernel
theorem dX8_remembers_1 : decode cX8_remembers 1 = .ok (.getfield 157, 3) := by decide +kernel
theorem dX8_remembers_4 : decode cX8_remembers 4 = .ok (.bipush 10, 2) := by decide +kernel
theorem dX8_remembers_6 : decode cX8_remembers 6 = .ok (.if_icmp .ne 43, 3) := by decide +kernel
theorem dX8_remembers_9 : decode cX8_remembers 9 = .ok (.iconst 0, 1) := by decide +kernel
theorem dX8_remembers_10 : decode cX8_remembers 10 = .ok (.istore_n 1, 1) := by decide +kernel
theorem dX8_remembers_11 : decode cX8_remembers 11 = .ok (.iload_n 1, 1) := by decide +kernel
theorem dX8_remembers_12 : decode cX8_remembers 12 = .ok (.sipush 153, 3) := by decide +kernel
theorem dX8_remembers_15 : decode cX8_remembers 15 = .ok (.if_icmp .ge 24, 3) := by decide +kernel
theorem dX8_remembers_18 : decode cX8_remembers 18 = .ok (.aload_n 0, 1) := by decide +kernel
theorem dX8_remembers_19 : decode cX8_remembers 19 = .ok (.getfield 41, 3) := by decide +kernel
theorem dX8_remembers_22 : decode cX8_remembers 22 = .ok (.iload_n 1, 1) := by decide +kernel
theorem dX8_remembers_23 : decode cX8_remembers 23 = .ok (.aload_n 0, 1) := by decide +kernel
theorem dX8_remembers_24 : decode cX8_remembers 24 = .ok (.getfield 41, 3) := by decide +kernel
theorem dX8_remembers_27 : decode cX8_remembers 27 = .ok (.iload_n 1, 1) := by decide +kernel
theorem dX8_remembers_28 : decode cX8_remembers 28 = .ok (.bipush 17, 2) := by decide +kernel
