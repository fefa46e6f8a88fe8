theorem dX6_hike_68 : decode cX6_hike 68 = .ok (.if_icmp .ge 110, 3) := by decide +kernel
theorem dX6_hike_71 : decode cX6_hike 71 = .ok (.lload_n 1, 1) := by decide +kernel
theorem dX6_hike_72 : decode cX6_hike 72 = .ok (.iload 8, 2) := by decide +kernel
theorem dX6_hike_74 : decode cX6_hike 74 = .ok (.lshr, 1) := by decide +kernel
theorem dX6_hike_75 : decode cX6_hike 75 = .ok (.lconst 1, 1) := by decide +kernel
theorem dX6_hike_76 : decode cX6_hike 76 = .ok (.land, 1) := by decide +kernel
theorem dX6_hike_77 : decode cX6_hike 77 = .ok (.lconst 0, 1) := by decide +kernel
theorem dX6_hike_78 : decode cX6_hike 78 = .ok (.lcmp, 1) := by decide +kernel
theorem dX6_hike_79 : decode cX6_hike 79 = .ok (.ifCond .ne 6, 3) := by decide +kernel
theorem dX6_hike_82 : decode cX6_hike 82 = .ok (.goto 90, 3) := by decide +kernel
theorem dX6_hike_85 : decode cX6_hike 85 = .ok (.iload 5, 2) := by decide +kernel
theorem dX6_hike_87 : decode cX6_hike 87 = .ok (.bipush 12, 2) := by decide +kernel
theorem dX6_hike_89 : decode cX6_hike 89 = .ok (.iconst 0, 1) := by decide +kernel
theorem dX6_hike_90 : decode cX6_hike 90 = .ok (.bipush 14, 2) := by decide +kernel
theorem dX6_hike_92 : decode cX6_hike 92 = .ok (.aload_n 0, 1) := by decide +kernel
theorem dX6_hike_93 : decode cX6_hike 93 = .ok (.getfield 13, 3) := by decide +kernel
theorem dX6_hike_96 : decode cX6_hike 96 = .ok (.iload 8, 2) := by decide +kernel
theorem dX6_hike_98 : decode cX6_hike 98 = .ok (.iaload, 1) := by decide +kernel
theorem dX6_hike_99 : decode cX6_hike 99 = .ok (.isub, 1) := by decide +kernel
theorem dX6_hike_100 : decode cX6_hike 100 = .ok (.invokestatic 153, 3) := by decide +kernel
theorem dX6_hike_103 : decode cX6_hike 103 = .ok (.iadd, 1) := by decide +kernel
theorem dX6_hike_104 : decode cX6_hike 104 = .ok (.iconst 2, 1) := by decide +kernel
theorem dX6_hike_105 : decode cX6_hike 105 = .ok (.aload_n 0, 1) := by decide +kernel
theorem dX6_hike_106 : decode cX6_hike 106 = .ok (.getfield 16, 3) := by decide +kernel
theorem dX6_hike_109 : decode cX6_hike 109 = .ok (.iload 8, 2) := by decide +kernel
theorem dX6_hike_111 : decode cX6_hike 111 = .ok (.iaload, 1) := by decide +kernel
theorem dX6_hike_112 : decode cX6_hike 112 = .ok (.iconst 1, 1) := by decide +kernel
theorem dX6_hike_113 : decode cX6_hike 113 = .ok (.iand, 1) := by decide +kernel
theorem dX6_hike_114 : decode cX6_hike 114 = .ok (.imul, 1) := by decide +kernel
theorem dX6_hike_115 : decode cX6_hike 115 = .ok (.isub, 1) := by decide +kernel
theorem dX6_hike_116 : decode cX6_hike 116 = .ok (.invokestatic 153, 3) := by decide +kernel
theorem dX6_hike_119 : decode cX6_hike 119 = .ok (.istore 5, 2) := by decide +kernel
theorem dX6_hike_121 : decode cX6_hike 121 = .ok (.iload 6, 2) := by decide +kernel
theorem dX6_hike_123 : decode cX6_hike 123 = .ok (.ifCond .ne 15, 3) := by decide +kernel
theorem dX6_hike_126 : decode cX6_hike 126 = .ok (.aload_n 0, 1) := by decide +kernel
theorem dX6_hike_127 : decode cX6_hike 127 = .ok (.getfield 13, 3) := by decide +kernel
theorem dX6_hike_130 : decode cX6_hike 130 = .ok (.iload 8, 2) := by decide +kernel
theorem dX6_hike_132 : decode cX6_hike 132 = .ok (.iaload, 1) := by decide +kernel
theorem dX6_hike_133 : decode cX6_hike 133 = .ok (.bipush 14, 2) := by decide +kernel
theorem dX6_hike_135 : decode cX6_hike 135 = .ok (.if_icmp .lt 7, 3) := by decide +kernel
theorem dX6_hike_138 : decode cX6_hike 138 = .ok (.iconst 1, 1) := by decide +kernel
theorem dX6_hike_139 : decode cX6_hike 139 = .ok (.goto 4, 3) := by decide +kernel
theorem dX6_hike_142 : decode cX6_hike 142 = .ok (.iconst 0, 1) := by decide +kernel
theorem dX6_hike_143 : decode cX6_hike 143 = .ok (.istore 6, 2) := by decide +kernel
theorem dX6_hike_145 : decode cX6_hike 145 = .ok (.iload 7, 2) := by decide +kernel
theorem dX6_hike_147 : decode cX6_hike 147 = .ok (.ifCond .ne 18, 3) := by decide +kernel
theorem dX6_hike_150 : decode cX6_hike 150 = .ok (.aload_n 0, 1) := by decide +kernel
theorem dX6_hike_151 : decode cX6_hike 151 = .ok (.getfield 16, 3) := by decide +kernel
theorem dX6_hike_154 : decode cX6_hike 154 = .ok (.iload 8, 2) := by decide +kernel
theorem dX6_hike_156 : decode cX6_hike 156 = .ok (.iaload, 1) := by decide +kernel
theorem dX6_hike_157 : decode cX6_hike 157 = .ok (.iconst 1, 1) := by decide +kernel
theorem dX6_hike_158 : decode cX6_hike 158 = .ok (.ishr, 1) := by decide +kernel
theorem dX6_hike_159 : decode cX6_hike 159 = .ok (.iconst 1, 1) := by decide +kernel
theorem dX6_hike_160 : decode cX6_hike 160 = .ok (.iand, 1) := by decide +kernel
theorem dX6_hike_161 : decode cX6_hike 161 = .ok (.iconst 1, 1) := by decide +kernel
theorem dX6_hike_162 : decode cX6_hike 162 = .ok (.if_icmp .ne 7, 3) := by decide +kernel
theorem dX6_hike_165 : decode cX6_hike 165 = .ok (.iconst 1, 1) := by decide +kernel
theorem dX6_hike_166 : decode cX6_hike 166 = .ok (.goto 4, 3) := by decide +kernel
theorem dX6_hike_169 : decode cX6_hike 169 = .ok (.iconst 0, 1) := by decide +kernel
theorem dX6_hike_170 : decode cX6_hike 170 = .ok (.istore 7, 2) := by decide +kernel
theorem dX6_hike_172 : decode cX6_hike 172 = .ok (.iinc 8 1, 3) := by decide +kernel
theorem dX6_hike_175 : decode cX6_hike 175 = .ok (.goto (-113), 3) := by decide +kernel
theorem dX6_hike_178 : decode cX6_hike 178 = .ok (.iload 6, 2) := by decide +kernel
theorem dX6_hike_180 : decode cX6_hike 180 = .ok (.ifCond .eq 8, 3) := by decide +kernel
theorem dX6_hike_183 : decode cX6_hike 183 = .ok (.iload 7, 2) := by decide +kernel
theorem dX6_hike_185 : decode cX6_hike 185 = .ok (.ifCond .ne 9, 3) := by decide +kernel
theorem dX6_hike_188 : decode cX6_hike 188 = .ok (.aload_n 0, 1) := by decide +kernel
theorem dX6_hike_189 : decode cX6_hike 189 = .ok (.iconst 2, 1) := by decide +kernel
theorem dX6_hike_190 : decode cX6_hike 190 = .ok (.invokevirtual 79, 3) := by decide +kernel
theorem dX6_hike_193 : decode cX6_hike 193 = .ok (.ireturn, 1) := by decide +kernel
theorem dX6_hike_194 : decode cX6_hike 194 = .ok (.iload 5, 2) := by decide +kernel
theorem dX6_hike_196 : decode cX6_hike 196 = .ok (.iload_n 3, 1) := by decide +kernel
theorem dX6_hike_197 : decode cX6_hike 197 = .ok (.imul, 1) := by decide +kernel
theorem dX6_hike_198 : decode cX6_hike 198 = .ok (.iload 4, 2) := by decide +kernel
theorem dX6_hike_200 : decode cX6_hike 200 = .ok (.bipush 100, 2) := by decide +kernel
theorem dX6_hike_202 : decode cX6_hike 202 = .ok (.idiv, 1) := by decide +kernel
theorem dX6_hike_203 : decode cX6_hike 203 = .ok (.bipush 10, 2) := by decide +kernel
theorem dX6_hike_205 : decode cX6_hike 205 = .ok (.imul, 1) := by decide +kernel
theorem dX6_hike_206 : decode cX6_hike 206 = .ok (.iadd, 1) := by decide +kernel
theorem dX6_hike_207 : decode cX6_hike 207 = .ok (.istore 8, 2) := by decide +kernel
theorem dX6_hike_209 : decode cX6_hike 209 = .ok (.iload 8, 2) := by decide +kernel
theorem dX6_hike_211 : decode cX6_hike 211 = .ok (.iload 8, 2) := by decide +kernel
theorem dX6_hike_213 : decode cX6_hike 213 = .ok (.bipush 60, 2) := by decide +kernel
theorem dX6_hike_215 : decode cX6_hike 215 = .ok (.idiv, 1) := by decide +kernel
theorem dX6_hike_216 : decode cX6_hike 216 = .ok (.iconst 5, 1) := by decide +kernel
theorem dX6_hike_217 : decode cX6_hike 217 = .ok (.imul, 1) := by decide +kernel
theorem dX6_hike_218 : decode cX6_hike 218 = .ok (.iadd, 1) := by decide +kernel
theorem dX6_hike_219 : decode cX6_hike 219 = .ok (.ireturn, 1) := by decide +kernel
set_option maxRecDepth 20000 in
theorem ggX6_end_X6_no : GoodIn wsX6_end wsX6_no := goodIn_r _ [9, 1, 10, 11, 12, 13, 14, 15, 16, 17, 18, 19, 20, 21, 22, 23, 24, 25, 26, 27, 28, 29, 30, 31, 32] (by decide +kernel) (by decide +kernel)
set_option maxRecDepth 20000 in
theorem gX6_end_X6_no : GoodIn wsX6_end (wsV RX6 79 RX6 yX6_no wsX6_no) := goodIn_app (goodIn_of _ (by decide +kernel)) ggX6_end_X6_no
theorem dX6_end_0 : decode cX6_end 0 = .ok (.aload_n 0, 1) := by decide +kernel
theorem dX6_end_1 : decode cX6_end 1 = .ok (.iconst 0, 1) := by decide +kernel
theorem dX6_end_2 : decode cX6_end 2 = .ok (.putfield 53, 3) := by decide +kernel
theorem dX6_end_5 : decode cX6_end 5 = .ok (.aload_n 0, 1) := by decide +kernel
theorem dX6_end_6 : decode cX6_end 6 = .ok (.getfield 128, 3) := by decide +kernel
theorem dX6_end_9 : decode cX6_end 9 = .ok (.bipush 60, 2) := by decide +kernel
theorem dX6_end_11 : decode cX6_end 11 = .ok (.if_icmp .ne 9, 3) := by decide +kernel
theorem dX6_end_14 : decode cX6_end 14 = .ok (.aload_n 0, 1) := by decide +kernel
theorem dX6_end_15 : decode cX6_end 15 = .ok (.iconst 1, 1) := by decide +kernel
theorem dX6_end_16 : decode cX6_end 16 = .ok (.invokevirtual 79, 3) := by decide +kernel
theorem dX6_end_19 : decode cX6_end 19 = .ok (.ireturn, 1) := by decide +kernel
theorem dX6_end_20 : decode cX6_end 20 = .ok (.aload_n 0, 1) := by decide +kernel
theorem dX6_end_21 : decode cX6_end 21 = .ok (.dup, 1) := by decide +kernel
theorem dX6_end_22 : decode cX6_end 22 = .ok (.getfield 128, 3) := by decide +kernel
theorem dX6_end_25 : decode cX6_end 25 = .ok (.iconst 1, 1) := by decide +kernel
theorem dX6_end_26 : decode cX6_end 26 = .ok (.iadd, 1) := by decide +kernel
theorem dX6_end_27 : decode cX6_end 27 = .ok (.putfield 128, 3) := by decide +kernel
theorem dX6_end_30 : decode cX6_end 30 = .ok (.aload_n 0, 1) := by decide +kernel
theorem dX6_end_31 : decode cX6_end 31 = .ok (.iconst 0, 1) := by decide +kernel
theorem dX6_end_32 : decode cX6_end 32 = .ok (.putfield 156, 3) := by decide +kernel
theorem dX6_end_35 : decode cX6_end 35 = .ok (.iconst 0, 1) := by decide +kernel
theorem dX6_end_36 : decode cX6_end 36 = .ok (.istore_n 1, 1) := by decide +kernel
theorem dX6_end_37 : decode cX6_end 37 = .ok (.iload_n 1, 1) := by decide +kernel
theorem dX6_end_38 : decode cX6_end 38 = .ok (.bipush 30, 2) := by decide +kernel
theorem dX6_end_40 : decode cX6_end 40 = .ok (.if_icmp .ge 16, 3) := by decide +kernel
theorem dX6_end_43 : decode cX6_end 43 = .ok (.aload_n 0, 1) := by decide +kernel
theorem dX6_end_44 : decode cX6_end 44 = .ok (.getfield 31, 3) := by decide +kernel
theorem dX6_end_47 : decode cX6_end 47 = .ok (.iload_n 1, 1) := by decide +kernel
theorem dX6_end_48 : decode cX6_end 48 = .ok (.iconst 0, 1) := by decide +kernel
theorem dX6_end_49 : decode cX6_end 49 = .ok (.bastore, 1) := by decide +kernel
theorem dX6_end_50 : decode cX6_end 50 = .ok (.iinc 1 1, 3) := by decide +kernel
theorem dX6_end_53 : decode cX6_end 53 = .ok (.goto (-16), 3) := by decide +kernel
theorem dX6_end_56 : decode cX6_end 56 = .ok (.aload_n 0, 1) := by decide +kernel
theorem dX6_end_57 : decode cX6_end 57 = .ok (.getfield 128, 3) := by decide +kernel
theorem dX6_end_60 : decode cX6_end 60 = .ok (.ireturn, 1) := by decide +kernel
theorem dX6_day_0 : decode cX6_day 0 = .ok (.aload_n 0, 1) := by decide +kernel
theorem dX6_day_1 : decode cX6_day 1 = .ok (.iconst 0, 1) := by decide +kernel
theorem dX6_day_2 : decode cX6_day 2 = .ok (.putfield 53, 3) := by decide +kernel
theorem dX6_day_5 : decode cX6_day 5 = .ok (.aload_n 0, 1) := by decide +kernel
theorem dX6_day_6 : decode cX6_day 6 = .ok (.getfield 128, 3) := by decide +kernel
theorem dX6_day_9 : decode cX6_day 9 = .ok (.ireturn, 1) := by decide +kernel
theorem dX6_meanAge_0 : decode cX6_meanAge 0 = .ok (.aload_n 0, 1) := by decide +kernel
theorem dX6_meanAge_1 : decode cX6_meanAge 1 = .ok (.iconst 0, 1) := by decide +kernel
theorem dX6_meanAge_2 : decode cX6_meanAge 2 = .ok (.putfield 53, 3) := by decide +kernel
theorem dX6_meanAge_5 : decode cX6_meanAge 5 = .ok (.iconst 0, 1) := by decide +kernel
theorem dX6_meanAge_6 : decode cX6_meanAge 6 = .ok (.istore_n 1, 1) := by decide +kernel
theorem dX6_meanAge_7 : decode cX6_meanAge 7 = .ok (.iconst 0, 1) := by decide +kernel
theorem dX6_meanAge_8 : decode cX6_meanAge 8 = .ok (.istore_n 2, 1) := by decide +kernel
theorem dX6_meanAge_9 : decode cX6_meanAge 9 = .ok (.iload_n 2, 1) := by decide +kernel
theorem dX6_meanAge_10 : decode cX6_meanAge 10 = .ok (.aload_n 0, 1) := by decide +kernel
theorem dX6_meanAge_11 : decode cX6_meanAge 11 = .ok (.getfield 64, 3) := by decide +kernel
theorem dX6_meanAge_14 : decode cX6_meanAge 14 = .ok (.if_icmp .ge 18, 3) := by decide +kernel
theorem dX6_meanAge_17 : decode cX6_meanAge 17 = .ok (.iload_n 1, 1) := by decide +kernel
theorem dX6_meanAge_18 : decode cX6_meanAge 18 = .ok (.aload_n 0, 1) := by decide +kernel
theorem dX6_meanAge_19 : decode cX6_meanAge 19 = .ok (.getfield 13, 3) := by decide +kernel
theorem dX6_meanAge_22 : decode cX6_meanAge 22 = .ok (.iload_n 2, 1) := by decide +kernel
theorem dX6_meanAge_23 : decode cX6_meanAge 23 = .ok (.iaload, 1) := by decide +kernel
theorem dX6_meanAge_24 : decode cX6_meanAge 24 = .ok (.iadd, 1) := by decide +kernel
theorem dX6_meanAge_25 : decode cX6_meanAge 25 = .ok (.istore_n 1, 1) := by decide +kernel
theorem dX6_meanAge_26 : decode cX6_meanAge 26 = .ok (.iinc 2 1, 3) := by decide +kernel
theorem dX6_meanAge_29 : decode cX6_meanAge 29 = .ok (.goto (-20), 3) := by decide +kernel
theorem dX6_meanAge_32 : decode cX6_meanAge 32 = .ok (.aload_n 0, 1) := by decide +kernel
theorem dX6_meanAge_33 : decode cX6_meanAge 33 = .ok (.getfield 64, 3) := by decide +kernel
theorem dX6_meanAge_36 : decode cX6_meanAge 36 = .ok (.ifCond .ne 7, 3) := by decide +kernel
theorem dX6_meanAge_39 : decode cX6_meanAge 39 = .ok (.dconst 0, 1) := by decide +kernel
theorem dX6_meanAge_40 : decode cX6_meanAge 40 = .ok (.goto 11, 3) := by decide +kernel
theorem dX6_meanAge_43 : decode cX6_meanAge 43 = .ok (.iload_n 1, 1) := by decide +kernel
theorem dX6_meanAge_44 : decode cX6_meanAge 44 = .ok (.i2d, 1) := by decide +kernel
theorem dX6_meanAge_45 : decode cX6_meanAge 45 = .ok (.aload_n 0, 1) := by decide +kernel
theorem dX6_meanAge_46 : decode cX6_meanAge 46 = .ok (.getfield 64, 3) := by decide +kernel
theorem dX6_meanAge_49 : decode cX6_meanAge 49 = .ok (.i2d, 1) := by decide +kernel
theorem dX6_meanAge_50 : decode cX6_meanAge 50 = .ok (.ddiv, 1) := by decide +kernel
theorem dX6_meanAge_51 : decode cX6_meanAge 51 = .ok (.dreturn, 1) := by decide +kernel
set_option maxRecDepth 20000 in
theorem ggX6_digest_X6_counted : GoodIn wsX6_digest wsX6_counted := goodIn_r _ [15, 16, 5, 6, 7, 8, 10, 17, 18, 19, 20, 14, 21, 22, 23, 76, 77, 78, 79, 80, 81, 82, 83, 84, 85, 86, 87, 88, 89, 90, 91, 92, 93, 94, 95, 96, 97, 98] (by decide +kernel) (by decide +kernel)
set_option maxRecDepth 20000 in
theorem gX6_digest_X6_counted : GoodIn wsX6_digest (wsV RX6 119 RX6 yX6_counted wsX6_counted) := goodIn_app (goodIn_of _ (by decide +kernel)) ggX6_digest_X6_counted
set_option maxRecDepth 20000 in
theorem ggX6_digest_X6_pointsOf : GoodIn wsX6_digest wsX6_pointsOf := goodIn_r _ [27, 16, 28, 76, 77, 78, 79, 80, 81, 82, 83, 84, 85, 86, 87, 88, 89, 90, 91, 92, 93, 94, 95, 96, 97, 98] (by decide +kernel) (by decide +kernel)
set_option maxRecDepth 20000 in
theorem gX6_digest_X6_pointsOf : GoodIn wsX6_digest (wsV RX6 134 RX6 yX6_pointsOf wsX6_pointsOf) := goodIn_app (goodIn_of _ (by decide +kernel)) ggX6_digest_X6_pointsOf
set_option maxRecDepth 20000 in
theorem ggX6_digest_X6_told : GoodIn wsX6_digest wsX6_told := goodIn_r _ [32, 16, 23, 33, 34, 35, 22, 36, 37, 38, 39, 14, 40, 41, 76, 77, 78, 79, 80, 81, 82, 83, 84, 85, 86, 87, 88, 89, 90, 91, 92, 93, 94, 95, 96, 97, 98] (by decide +kernel) (by decide +kernel)
set_option maxRecDepth 20000 in
theorem gX6_digest_X6_told : GoodIn wsX6_digest (wsV RX6 93 RX6 yX6_told wsX6_told) := goodIn_app (goodIn_of _ (by decide +kernel)) ggX6_digest_X6_told
set_option maxRecDepth 20000 in
theorem ggX6_digest_X6_in : GoodIn wsX6_digest wsX6_in := goodIn_r _ [45, 6, 22, 76, 77, 78, 79, 80, 81, 82, 83, 84, 85, 86, 87, 88, 89, 90, 91, 92, 93, 94, 95, 96, 97, 98] (by decide +kernel) (by decide +kernel)
set_option maxRecDepth 20000 in
theorem gX6_digest_X6_in : GoodIn wsX6_digest (wsV RX6 112 RX6 yX6_in wsX6_in) := goodIn_app (goodIn_of _ (by decide +kernel)) ggX6_digest_X6_in
set_option maxRecDepth 20000 in
theorem ggX6_digest_X6_at : GoodIn wsX6_digest wsX6_at := goodIn_r _ [49, 28, 50, 51, 14, 52, 76, 77, 78, 79, 80, 81, 82, 83, 84, 85, 86, 87, 88, 89, 90, 91, 92, 93, 94, 95, 96, 97, 98] (by decide +kernel) (by decide +kernel)
set_option maxRecDepth 20000 in
theorem gX6_digest_X6_at : GoodIn wsX6_digest (wsV RX6 125 RX6 yX6_at wsX6_at) := goodIn_app (goodIn_of _ (by decide +kernel)) ggX6_digest_X6_at
set_option maxRecDepth 20000 in
theorem ggX6_digest_X6_setOf : GoodIn wsX6_digest wsX6_setOf := goodIn_r _ [56, 6, 57, 58, 59, 14, 60, 8, 61, 35, 76, 77, 78, 79, 80, 81, 82, 83, 84, 85, 86, 87, 88, 89, 90, 91, 92, 93, 94, 95, 96, 97, 98] (by decide +kernel) (by decide +kernel)
set_option maxRecDepth 20000 in
theorem gX6_digest_X6_setOf : GoodIn wsX6_digest (wsV RX6 146 RX6 yX6_setOf wsX6_setOf) := goodIn_app (goodIn_of _ (by decide +kernel)) ggX6_digest_X6_setOf
set_option maxRecDepth 20000 in
theorem ggX6_digest_X6_tableOf : GoodIn wsX6_digest wsX6_tableOf := goodIn_r _ [65, 66, 6, 67, 10, 68, 69, 70, 14, 71, 8, 61, 9, 72, 73, 74, 75, 57, 58, 59, 60, 35, 76, 77, 78, 79, 80, 81, 82, 83, 84, 85, 86, 87, 88, 89, 90, 91, 92, 93, 94, 95, 96, 97, 98] (by decide +kernel) (by decide +kernel)
set_option maxRecDepth 20000 in
theorem gX6_digest_X6_tableOf : GoodIn wsX6_digest (wsV RX6 162 RX6 yX6_tableOf wsX6_tableOf) := goodIn_app (goodIn_of _ (by decide +kernel)) ggX6_digest_X6_tableOf
theorem dX6_digest_0 : decode cX6_digest 0 = .ok (.aload_n 0, 1) := by decide +kernel
theorem dX6_digest_1 : decode cX6_digest 1 = .ok (.iconst 0, 1) := by decide +kernel
theorem dX6_digest_2 : decode cX6_digest 2 = .ok (.putfield 53, 3) := by decide +kernel
theorem dX6_digest_5 : decode cX6_digest 5 = .ok (.ldc2_w 174, 3) := by decide +kernel
theorem dX6_digest_8 : decode cX6_digest 8 = .ok (.aload_n 0, 1) := by decide +kernel
theorem dX6_digest_9 : decode cX6_digest 9 = .ok (.getfield 128, 3) := by decide +kernel
theorem dX6_digest_12 : decode cX6_digest 12 = .ok (.i2l, 1) := by decide +kernel
theorem dX6_digest_13 : decode cX6_digest 13 = .ok (.ladd, 1) := by decide +kernel
theorem dX6_digest_14 : decode cX6_digest 14 = .ok (.lstore_n 1, 1) := by decide +kernel
theorem dX6_digest_15 : decode cX6_digest 15 = .ok (.iconst 0, 1) := by decide +kernel
theorem dX6_digest_16 : decode cX6_digest 16 = .ok (.istore_n 3, 1) := by decide +kernel
theorem dX6_digest_17 : decode cX6_digest 17 = .ok (.iload_n 3, 1) := by decide +kernel
theorem dX6_digest_18 : decode cX6_digest 18 = .ok (.bipush 7, 2) := by decide +kernel
theorem dX6_digest_20 : decode cX6_digest 20 = .ok (.if_icmp .ge 22, 3) := by decide +kernel
theorem dX6_digest_23 : decode cX6_digest 23 = .ok (.lload_n 1, 1) := by decide +kernel
theorem dX6_digest_24 : decode cX6_digest 24 = .ok (.ldc2_w 176, 3) := by decide +kernel
theorem dX6_digest_27 : decode cX6_digest 27 = .ok (.lmul, 1) := by decide +kernel
theorem dX6_digest_28 : decode cX6_digest 28 = .ok (.aload_n 0, 1) := by decide +kernel
theorem dX6_digest_29 : decode cX6_digest 29 = .ok (.iload_n 3, 1) := by decide +kernel
theorem dX6_digest_30 : decode cX6_digest 30 = .ok (.invokevirtual 119, 3) := by decide +kernel
theorem dX6_digest_33 : decode cX6_digest 33 = .ok (.i2l, 1) := by decide +kernel
theorem dX6_digest_34 : decode cX6_digest 34 = .ok (.ladd, 1) := by decide +kernel
theorem dX6_digest_35 : decode cX6_digest 35 = .ok (.lstore_n 1, 1) := by decide +kernel
theorem dX6_digest_36 : decode cX6_digest 36 = .ok (.iinc 3 1, 3) := by decide +kernel
theorem dX6_digest_39 : decode cX6_digest 39 = .ok (.goto (-22), 3) := by decide +kernel
theorem dX6_digest_42 : decode cX6_digest 42 = .ok (.iconst 0, 1) := by decide +kernel
theorem dX6_digest_43 : decode cX6_digest 43 = .ok (.istore_n 3, 1) := by decide +kernel
theorem dX6_digest_44 : decode cX6_digest 44 = .ok (.iload_n 3, 1) := by decide +kernel
theorem dX6_digest_45 : decode cX6_digest 45 = .ok (.aload_n 0, 1) := by decide +kernel
theorem dX6_digest_46 : decode cX6_digest 46 = .ok (.getfield 57, 3) := by decide +kernel
theorem dX6_digest_49 : decode cX6_digest 49 = .ok (.if_icmp .ge 22, 3) := by decide +kernel
theorem dX6_digest_52 : decode cX6_digest 52 = .ok (.lload_n 1, 1) := by decide +kernel
theorem dX6_digest_53 : decode cX6_digest 53 = .ok (.ldc2_w 176, 3) := by decide +kernel
theorem dX6_digest_56 : decode cX6_digest 56 = .ok (.lmul, 1) := by decide +kernel
theorem dX6_digest_57 : decode cX6_digest 57 = .ok (.aload_n 0, 1) := by decide +kernel
theorem dX6_digest_58 : decode cX6_digest 58 = .ok (.iload_n 3, 1) := by decide +kernel
theorem dX6_digest_59 : decode cX6_digest 59 = .ok (.invokevirtual 134, 3) := by decide +kernel
theorem dX6_digest_62 : decode cX6_digest 62 = .ok (.i2l, 1) := by decide +kernel
theorem dX6_digest_63 : decode cX6_digest 63 = .ok (.ladd, 1) := by decide +kernel
theorem dX6_digest_64 : decode cX6_digest 64 = .ok (.lstore_n 1, 1) := by decide +kernel
theorem dX6_digest_65 : decode cX6_digest 65 = .ok (.iinc 3 1, 3) := by decide +kernel
theorem dX6_digest_68 : decode cX6_digest 68 = .ok (.goto (-24), 3) := by decide +kernel
theorem dX6_digest_71 : decode cX6_digest 71 = .ok (.iconst 0, 1) := by decide +kernel
theorem dX6_digest_72 : decode cX6_digest 72 = .ok (.istore_n 3, 1) := by decide +kernel
theorem dX6_digest_73 : decode cX6_digest 73 = .ok (.iload_n 3, 1) := by decide +kernel
theorem dX6_digest_74 : decode cX6_digest 74 = .ok (.aload_n 0, 1) := by decide +kernel
theorem dX6_digest_75 : decode cX6_digest 75 = .ok (.getfield 64, 3) := by decide +kernel
theorem dX6_digest_78 : decode cX6_digest 78 = .ok (.if_icmp .ge 40, 3) := by decide +kernel
theorem dX6_digest_81 : decode cX6_digest 81 = .ok (.iconst 0, 1) := by decide +kernel
theorem dX6_digest_82 : decode cX6_digest 82 = .ok (.istore 4, 2) := by decide +kernel
theorem dX6_digest_84 : decode cX6_digest 84 = .ok (.iload 4, 2) := by decide +kernel
theorem dX6_digest_86 : decode cX6_digest 86 = .ok (.bipush 7, 2) := by decide +kernel
theorem dX6_digest_88 : decode cX6_digest 88 = .ok (.if_icmp .ge 24, 3) := by decide +kernel
theorem dX6_digest_91 : decode cX6_digest 91 = .ok (.lload_n 1, 1) := by decide +kernel
theorem dX6_digest_92 : decode cX6_digest 92 = .ok (.ldc2_w 176, 3) := by decide +kernel
theorem dX6_digest_95 : decode cX6_digest 95 = .ok (.lmul, 1) := by decide +kernel
theorem dX6_digest_96 : decode cX6_digest 96 = .ok (.aload_n 0, 1) := by decide +kernel
theorem dX6_digest_97 : decode cX6_digest 97 = .ok (.iload_n 3, 1) := by decide +kernel
theorem dX6_digest_98 : decode cX6_digest 98 = .ok (.iload 4, 2) := by decide +kernel
theorem dX6_digest_100 : decode cX6_digest 100 = .ok (.invokevirtual 93, 3) := by decide +kernel
theorem dX6_digest_103 : decode cX6_digest 103 = .ok (.i2l, 1) := by decide +kernel
theorem dX6_digest_104 : decode cX6_digest 104 = .ok (.ladd, 1) := by decide +kernel
theorem dX6_digest_105 : decode cX6_digest 105 = .ok (.lstore_n 1, 1) := by decide +kernel
theorem dX6_digest_106 : decode cX6_digest 106 = .ok (.iinc 4 1, 3) := by decide +kernel
theorem dX6_digest_109 : decode cX6_digest 109 = .ok (.goto (-25), 3) := by decide +kernel
theorem dX6_digest_112 : decode cX6_digest 112 = .ok (.iinc 3 1, 3) := by decide +kernel
theorem dX6_digest_115 : decode cX6_digest 115 = .ok (.goto (-42), 3) := by decide +kernel
theorem dX6_digest_118 : decode cX6_digest 118 = .ok (.iconst 0, 1) := by decide +kernel
theorem dX6_digest_119 : decode cX6_digest 119 = .ok (.istore_n 3, 1) := by decide +kernel
theorem dX6_digest_120 : decode cX6_digest 120 = .ok (.iload_n 3, 1) := by decide +kernel
theorem dX6_digest_121 : decode cX6_digest 121 = .ok (.aload_n 0, 1) := by decide +kernel
theorem dX6_digest_122 : decode cX6_digest 122 = .ok (.getfield 67, 3) := by decide +kernel
theorem dX6_digest_125 : decode cX6_digest 125 = .ok (.if_icmp .ge 21, 3) := by decide +kernel
theorem dX6_digest_128 : decode cX6_digest 128 = .ok (.lload_n 1, 1) := by decide +kernel
theorem dX6_digest_129 : decode cX6_digest 129 = .ok (.ldc2_w 176, 3) := by decide +kernel
theorem dX6_digest_132 : decode cX6_digest 132 = .ok (.lmul, 1) := by decide +kernel
theorem dX6_digest_133 : decode cX6_digest 133 = .ok (.aload_n 0, 1) := by decide +kernel
theorem dX6_digest_134 : decode cX6_digest 134 = .ok (.iload_n 3, 1) := by decide +kernel
theorem dX6_digest_135 : decode cX6_digest 135 = .ok (.invokevirtual 112, 3) := by decide +kernel
theorem dX6_digest_138 : decode cX6_digest 138 = .ok (.ladd, 1) := by decide +kernel
theorem dX6_digest_139 : decode cX6_digest 139 = .ok (.lstore_n 1, 1) := by decide +kernel
theorem dX6_digest_140 : decode cX6_digest 140 = .ok (.iinc 3 1, 3) := by decide +kernel
theorem dX6_digest_143 : decode cX6_digest 143 = .ok (.goto (-23), 3) := by decide +kernel
theorem dX6_digest_146 : decode cX6_digest 146 = .ok (.iconst 0, 1) := by decide +kernel
theorem dX6_digest_147 : decode cX6_digest 147 = .ok (.istore_n 3, 1) := by decide +kernel
theorem dX6_digest_148 : decode cX6_digest 148 = .ok (.iload_n 3, 1) := by decide +kernel
theorem dX6_digest_149 : decode cX6_digest 149 = .ok (.iconst 5, 1) := by decide +kernel
theorem dX6_digest_150 : decode cX6_digest 150 = .ok (.if_icmp .ge 26, 3) := by decide +kernel
theorem dX6_digest_153 : decode cX6_digest 153 = .ok (.lload_n 1, 1) := by decide +kernel
theorem dX6_digest_154 : decode cX6_digest 154 = .ok (.ldc2_w 176, 3) := by decide +kernel
theorem dX6_digest_157 : decode cX6_digest 157 = .ok (.lmul, 1) := by decide +kernel
theorem dX6_digest_158 : decode cX6_digest 158 = .ok (.aload_n 0, 1) := by decide +kernel
theorem dX6_digest_159 : decode cX6_digest 159 = .ok (.aload_n 0, 1) := by decide +kernel
theorem dX6_digest_160 : decode cX6_digest 160 = .ok (.getfield 128, 3) := by decide +kernel
theorem dX6_digest_163 : decode cX6_digest 163 = .ok (.iload_n 3, 1) := by decide +kernel
theorem dX6_digest_164 : decode cX6_digest 164 = .ok (.invokevirtual 125, 3) := by decide +kernel
theorem dX6_digest_167 : decode cX6_digest 167 = .ok (.i2l, 1) := by decide +kernel
theorem dX6_digest_168 : decode cX6_digest 168 = .ok (.ladd, 1) := by decide +kernel
theorem dX6_digest_169 : decode cX6_digest 169 = .ok (.lstore_n 1, 1) := by decide +kernel
theorem dX6_digest_170 : decode cX6_digest 170 = .ok (.iinc 3 1, 3) := by decide +kernel
theorem dX6_digest_173 : decode cX6_digest 173 = .ok (.goto (-25), 3) := by decide +kernel
theorem dX6_digest_176 : decode cX6_digest 176 = .ok (.iconst 0, 1) := by decide +kernel
theorem dX6_digest_177 : decode cX6_digest 177 = .ok (.istore_n 3, 1) := by decide +kernel
theorem dX6_digest_178 : decode cX6_digest 178 = .ok (.iload_n 3, 1) := by decide +kernel
theorem dX6_digest_179 : decode cX6_digest 179 = .ok (.aload_n 0, 1) := by decide +kernel
theorem dX6_digest_180 : decode cX6_digest 180 = .ok (.getfield 70, 3) := by decide +kernel
theorem dX6_digest_183 : decode cX6_digest 183 = .ok (.if_icmp .ge 23, 3) := by decide +kernel
theorem dX6_digest_186 : decode cX6_digest 186 = .ok (.lload_n 1, 1) := by decide +kernel
theorem dX6_digest_187 : decode cX6_digest 187 = .ok (.ldc2_w 176, 3) := by decide +kernel
theorem dX6_digest_190 : decode cX6_digest 190 = .ok (.lmul, 1) := by decide +kernel
theorem dX6_digest_191 : decode cX6_digest 191 = .ok (.aload_n 0, 1) := by decide +kernel
theorem dX6_digest_192 : decode cX6_digest 192 = .ok (.getfield 41, 3) := by decide +kernel
theorem dX6_digest_195 : decode cX6_digest 195 = .ok (.iload_n 3, 1) := by decide +kernel
theorem dX6_digest_196 : decode cX6_digest 196 = .ok (.iaload, 1) := by decide +kernel
theorem dX6_digest_197 : decode cX6_digest 197 = .ok (.i2l, 1) := by decide +kernel
theorem dX6_digest_198 : decode cX6_digest 198 = .ok (.ladd, 1) := by decide +kernel
theorem dX6_digest_199 : decode cX6_digest 199 = .ok (.lstore_n 1, 1) := by decide +kernel
theorem dX6_digest_200 : decode cX6_digest 200 = .ok (.iinc 3 1, 3) := by decide +kernel
theorem dX6_digest_203 : decode cX6_digest 203 = .ok (.goto (-25), 3) := by decide +kernel
theorem dX6_digest_206 : decode cX6_digest 206 = .ok (.iconst 0, 1) := by decide +kernel
theorem dX6_digest_207 : decode cX6_digest 207 = .ok (.istore_n 3, 1) := by decide +kernel
theorem dX6_digest_208 : decode cX6_digest 208 = .ok (.iload_n 3, 1) := by decide +kernel
theorem dX6_digest_209 : decode cX6_digest 209 = .ok (.aload_n 0, 1) := by decide +kernel
theorem dX6_digest_210 : decode cX6_digest 210 = .ok (.getfield 73, 3) := by decide +kernel
theorem dX6_digest_213 : decode cX6_digest 213 = .ok (.if_icmp .ge 21, 3) := by decide +kernel
theorem dX6_digest_216 : decode cX6_digest 216 = .ok (.lload_n 1, 1) := by decide +kernel
theorem dX6_digest_217 : decode cX6_digest 217 = .ok (.ldc2_w 176, 3) := by decide +kernel
theorem dX6_digest_220 : decode cX6_digest 220 = .ok (.lmul, 1) := by decide +kernel
theorem dX6_digest_221 : decode cX6_digest 221 = .ok (.aload_n 0, 1) := by decide +kernel
theorem dX6_digest_222 : decode cX6_digest 222 = .ok (.iload_n 3, 1) := by decide +kernel
theorem dX6_digest_223 : decode cX6_digest 223 = .ok (.invokevirtual 146, 3) := by decide +kernel
theorem dX6_digest_226 : decode cX6_digest 226 = .ok (.ladd, 1) := by decide +kernel
theorem dX6_digest_227 : decode cX6_digest 227 = .ok (.lstore_n 1, 1) := by decide +kernel
theorem dX6_digest_228 : decode cX6_digest 228 = .ok (.iinc 3 1, 3) := by decide +kernel
theorem dX6_digest_231 : decode cX6_digest 231 = .ok (.goto (-23), 3) := by decide +kernel
theorem dX6_digest_234 : decode cX6_digest 234 = .ok (.lload_n 1, 1) := by decide +kernel
theorem dX6_digest_235 : decode cX6_digest 235 = .ok (.ldc2_w 176, 3) := by decide +kernel
theorem dX6_digest_238 : decode cX6_digest 238 = .ok (.lmul, 1) := by decide +kernel
theorem dX6_digest_239 : decode cX6_digest 239 = .ok (.aload_n 0, 1) := by decide +kernel
theorem dX6_digest_240 : decode cX6_digest 240 = .ok (.iconst 0, 1) := by decide +kernel
theorem dX6_digest_241 : decode cX6_digest 241 = .ok (.invokevirtual 162, 3) := by decide +kernel
theorem dX6_digest_244 : decode cX6_digest 244 = .ok (.i2l, 1) := by decide +kernel
theorem dX6_digest_245 : decode cX6_digest 245 = .ok (.ladd, 1) := by decide +kernel
theorem dX6_digest_246 : decode cX6_digest 246 = .ok (.ldc2_w 176, 3) := by decide +kernel
theorem dX6_digest_249 : decode cX6_digest 249 = .ok (.lmul, 1) := by decide +kernel
theorem dX6_digest_250 : decode cX6_digest 250 = .ok (.aload_n 0, 1) := by decide +kernel
theorem dX6_digest_251 : decode cX6_digest 251 = .ok (.iconst 1, 1) := by decide +kernel
theorem dX6_digest_252 : decode cX6_digest 252 = .ok (.invokevirtual 162, 3) := by decide +kernel
theorem dX6_digest_255 : decode cX6_digest 255 = .ok (.i2l, 1) := by decide +kernel
theorem dX6_digest_256 : decode cX6_digest 256 = .ok (.ladd, 1) := by decide +kernel
theorem dX6_digest_257 : decode cX6_digest 257 = .ok (.lreturn, 1) := by decide +kernel
theorem dJ6_bitCount_0f7a4_0 : decode cJ6_bitCount_0f7a4 0 = .ok (.iload_n 0, 1) := by decide +kernel
theorem dJ6_bitCount_0f7a4_1 : decode cJ6_bitCount_0f7a4 1 = .ok (.iload_n 0, 1) := by decide +kernel
theorem dJ6_bitCount_0f7a4_2 : decode cJ6_bitCount_0f7a4 2 = .ok (.iconst 1, 1) := by decide +kernel
theorem dJ6_bitCount_0f7a4_3 : decode cJ6_bitCount_0f7a4 3 = .ok (.iushr, 1) := by decide +kernel
theorem dJ6_bitCount_0f7a4_4 : decode cJ6_bitCount_0f7a4 4 = .ok (.ldc_w 265, 3) := by decide +kernel
theorem dJ6_bitCount_0f7a4_7 : decode cJ6_bitCount_0f7a4 7 = .ok (.iand, 1) := by decide +kernel
theorem dJ6_bitCount_0f7a4_8 : decode cJ6_bitCount_0f7a4 8 = .ok (.isub, 1) := by decide +kernel
theorem dJ6_bitCount_0f7a4_9 : decode cJ6_bitCount_0f7a4 9 = .ok (.istore_n 0, 1) := by decide +kernel
theorem dJ6_bitCount_0f7a4_10 : decode cJ6_bitCount_0f7a4 10 = .ok (.iload_n 0, 1) := by decide +kernel
theorem dJ6_bitCount_0f7a4_11 : decode cJ6_bitCount_0f7a4 11 = .ok (.ldc_w 266, 3) := by decide +kernel
theorem dJ6_bitCount_0f7a4_14 : decode cJ6_bitCount_0f7a4 14 = .ok (.iand, 1) := by decide +kernel
theorem dJ6_bitCount_0f7a4_15 : decode cJ6_bitCount_0f7a4 15 = .ok (.iload_n 0, 1) := by decide +kernel
theorem dJ6_bitCount_0f7a4_16 : decode cJ6_bitCount_0f7a4 16 = .ok (.iconst 2, 1) := by decide +kernel
theorem dJ6_bitCount_0f7a4_17 : decode cJ6_bitCount_0f7a4 17 = .ok (.iushr, 1) := by decide +kernel
theorem dJ6_bitCount_0f7a4_18 : decode cJ6_bitCount_0f7a4 18 = .ok (.ldc_w 266, 3) := by decide +kernel
theorem dJ6_bitCount_0f7a4_21 : decode cJ6_bitCount_0f7a4 21 = .ok (.iand, 1) := by decide +kernel
theorem dJ6_bitCount_0f7a4_22 : decode cJ6_bitCount_0f7a4 22 = .ok (.iadd, 1) := by decide +kernel
theorem dJ6_bitCount_0f7a4_23 : decode cJ6_bitCount_0f7a4 23 = .ok (.istore_n 0, 1) := by decide +kernel
theorem dJ6_bitCount_0f7a4_24 : decode cJ6_bitCount_0f7a4 24 = .ok (.iload_n 0, 1) := by decide +kernel
theorem dJ6_bitCount_0f7a4_25 : decode cJ6_bitCount_0f7a4 25 = .ok (.iload_n 0, 1) := by decide +kernel
theorem dJ6_bitCount_0f7a4_26 : decode cJ6_bitCount_0f7a4 26 = .ok (.iconst 4, 1) := by decide +kernel
theorem dJ6_bitCount_0f7a4_27 : decode cJ6_bitCount_0f7a4 27 = .ok (.iushr, 1) := by decide +kernel
theorem dJ6_bitCount_0f7a4_28 : decode cJ6_bitCount_0f7a4 28 = .ok (.iadd, 1) := by decide +kernel
theorem dJ6_bitCount_0f7a4_29 : decode cJ6_bitCount_0f7a4 29 = .ok (.ldc_w 267, 3) := by decide +kernel
theorem dJ6_bitCount_0f7a4_32 : decode cJ6_bitCount_0f7a4 32 = .ok (.iand, 1) := by decide +kernel
theorem dJ6_bitCount_0f7a4_33 : decode cJ6_bitCount_0f7a4 33 = .ok (.istore_n 0, 1) := by decide +kernel
theorem dJ6_bitCount_0f7a4_34 : decode cJ6_bitCount_0f7a4 34 = .ok (.iload_n 0, 1) := by decide +kernel
theorem dJ6_bitCount_0f7a4_35 : decode cJ6_bitCount_0f7a4 35 = .ok (.iload_n 0, 1) := by decide +kernel
theorem dJ6_bitCount_0f7a4_36 : decode cJ6_bitCount_0f7a4 36 = .ok (.bipush 8, 2) := by decide +kernel
theorem dJ6_bitCount_0f7a4_38 : decode cJ6_bitCount_0f7a4 38 = .ok (.iushr, 1) := by decide +kernel
theorem dJ6_bitCount_0f7a4_39 : decode cJ6_bitCount_0f7a4 39 = .ok (.iadd, 1) := by decide +kernel
theorem dJ6_bitCount_0f7a4_40 : decode cJ6_bitCount_0f7a4 40 = .ok (.istore_n 0, 1) := by decide +kernel
theorem dJ6_bitCount_0f7a4_41 : decode cJ6_bitCount_0f7a4 41 = .ok (.iload_n 0, 1) := by decide +kernel
theorem dJ6_bitCount_0f7a4_42 : decode cJ6_bitCount_0f7a4 42 = .ok (.iload_n 0, 1) := by decide +kernel
theorem dJ6_bitCount_0f7a4_43 : decode cJ6_bitCount_0f7a4 43 = .ok (.bipush 16, 2) := by decide +kernel
theorem dJ6_bitCount_0f7a4_45 : decode cJ6_bitCount_0f7a4 45 = .ok (.iushr, 1) := by decide +kernel
theorem dJ6_bitCount_0f7a4_46 : decode cJ6_bitCount_0f7a4 46 = .ok (.iadd, 1) := by decide +kernel
theorem dJ6_bitCount_0f7a4_47 : decode cJ6_bitCount_0f7a4 47 = .ok (.istore_n 0, 1) := by decide +kernel
theorem dJ6_bitCount_0f7a4_48 : decode cJ6_bitCount_0f7a4 48 = .ok (.iload_n 0, 1) := by decide +kernel
theorem dJ6_bitCount_0f7a4_49 : decode cJ6_bitCount_0f7a4 49 = .ok (.bipush 63, 2) := by decide +kernel
theorem dJ6_bitCount_0f7a4_51 : decode cJ6_bitCount_0f7a4 51 = .ok (.iand, 1) := by decide +kernel
theorem dJ6_bitCount_0f7a4_52 : decode cJ6_bitCount_0f7a4 52 = .ok (.ireturn, 1) := by decide +kernel
theorem dJ13_bitCount_95d88_0 : decode cJ13_bitCount_95d88 0 = .ok (.lload_n 0, 1) := by decide +kernel
theorem dJ13_bitCount_95d88_1 : decode cJ13_bitCount_95d88 1 = .ok (.lload_n 0, 1) := by decide +kernel
theorem dJ13_bitCount_95d88_2 : decode cJ13_bitCount_95d88 2 = .ok (.iconst 1, 1) := by decide +kernel
theorem dJ13_bitCount_95d88_3 : decode cJ13_bitCount_95d88 3 = .ok (.lushr, 1) := by decide +kernel
theorem dJ13_bitCount_95d88_4 : decode cJ13_bitCount_95d88 4 = .ok (.ldc2_w 314, 3) := by decide +kernel
theorem dJ13_bitCount_95d88_7 : decode cJ13_bitCount_95d88 7 = .ok (.land, 1) := by decide +kernel
theorem dJ13_bitCount_95d88_8 : decode cJ13_bitCount_95d88 8 = .ok (.lsub, 1) := by decide +kernel
theorem dJ13_bitCount_95d88_9 : decode cJ13_bitCount_95d88 9 = .ok (.lstore_n 0, 1) := by decide +kernel
theorem dJ13_bitCount_95d88_10 : decode cJ13_bitCount_95d88 10 = .ok (.lload_n 0, 1) := by decide +kernel
theorem dJ13_bitCount_95d88_11 : decode cJ13_bitCount_95d88 11 = .ok (.ldc2_w 316, 3) := by decide +kernel
theorem dJ13_bitCount_95d88_14 : decode cJ13_bitCount_95d88 14 = .ok (.land, 1) := by decide +kernel
theorem dJ13_bitCount_95d88_15 : decode cJ13_bitCount_95d88 15 = .ok (.lload_n 0, 1) := by decide +kernel
theorem dJ13_bitCount_95d88_16 : decode cJ13_bitCount_95d88 16 = .ok (.iconst 2, 1) := by decide +kernel
theorem dJ13_bitCount_95d88_17 : decode cJ13_bitCount_95d88 17 = .ok (.lushr, 1) := by decide +kernel
theorem dJ13_bitCount_95d88_18 : decode cJ13_bitCount_95d88 18 = .ok (.ldc2_w 316, 3) := by decide +kernel
theorem dJ13_bitCount_95d88_21 : decode cJ13_bitCount_95d88 21 = .ok (.land, 1) := by decide +kernel
theorem dJ13_bitCount_95d88_22 : decode cJ13_bitCount_95d88 22 = .ok (.ladd, 1) := by decide +kernel
theorem dJ13_bitCount_95d88_23 : decode cJ13_bitCount_95d88 23 = .ok (.lstore_n 0, 1) := by decide +kernel
theorem dJ13_bitCount_95d88_24 : decode cJ13_bitCount_95d88 24 = .ok (.lload_n 0, 1) := by decide +kernel
theorem dJ13_bitCount_95d88_25 : decode cJ13_bitCount_95d88 25 = .ok (.lload_n 0, 1) := by decide +kernel
theorem dJ13_bitCount_95d88_26 : decode cJ13_bitCount_95d88 26 = .ok (.iconst 4, 1) := by decide +kernel
theorem dJ13_bitCount_95d88_27 : decode cJ13_bitCount_95d88 27 = .ok (.lushr, 1) := by decide +kernel
theorem dJ13_bitCount_95d88_28 : decode cJ13_bitCount_95d88 28 = .ok (.ladd, 1) := by decide +kernel
theorem dJ13_bitCount_95d88_29 : decode cJ13_bitCount_95d88 29 = .ok (.ldc2_w 318, 3) := by decide +kernel
theorem dJ13_bitCount_95d88_32 : decode cJ13_bitCount_95d88 32 = .ok (.land, 1) := by decide +kernel
theorem dJ13_bitCount_95d88_33 : decode cJ13_bitCount_95d88 33 = .ok (.lstore_n 0, 1) := by decide +kernel
theorem dJ13_bitCount_95d88_34 : decode cJ13_bitCount_95d88 34 = .ok (.lload_n 0, 1) := by decide +kernel
theorem dJ13_bitCount_95d88_35 : decode cJ13_bitCount_95d88 35 = .ok (.lload_n 0, 1) := by decide +kernel
theorem dJ13_bitCount_95d88_36 : decode cJ13_bitCount_95d88 36 = .ok (.bipush 8, 2) := by decide +kernel
theorem dJ13_bitCount_95d88_38 : decode cJ13_bitCount_95d88 38 = .ok (.lushr, 1) := by decide +kernel
theorem dJ13_bitCount_95d88_39 : decode cJ13_bitCount_95d88 39 = .ok (.ladd, 1) := by decide +kernel
theorem dJ13_bitCount_95d88_40 : decode cJ13_bitCount_95d88 40 = .ok (.lstore_n 0, 1) := by decide +kernel
theorem dJ13_bitCount_95d88_41 : decode cJ13_bitCount_95d88 41 = .ok (.lload_n 0, 1) := by decide +kernel
theorem dJ13_bitCount_95d88_42 : decode cJ13_bitCount_95d88 42 = .ok (.lload_n 0, 1) := by decide +kernel
theorem dJ13_bitCount_95d88_43 : decode cJ13_bitCount_95d88 43 = .ok (.bipush 16, 2) := by decide +kernel
theorem dJ13_bitCount_95d88_45 : decode cJ13_bitCount_95d88 45 = .ok (.lushr, 1) := by decide +kernel
theorem dJ13_bitCount_95d88_46 : decode cJ13_bitCount_95d88 46 = .ok (.ladd, 1) := by decide +kernel
theorem dJ13_bitCount_95d88_47 : decode cJ13_bitCount_95d88 47 = .ok (.lstore_n 0, 1) := by decide +kernel
theorem dJ13_bitCount_95d88_48 : decode cJ13_bitCount_95d88 48 = .ok (.lload_n 0, 1) := by decide +kernel
theorem dJ13_bitCount_95d88_49 : decode cJ13_bitCount_95d88 49 = .ok (.lload_n 0, 1) := by decide +kernel
theorem dJ13_bitCount_95d88_50 : decode cJ13_bitCount_95d88 50 = .ok (.bipush 32, 2) := by decide +kernel
theorem dJ13_bitCount_95d88_52 : decode cJ13_bitCount_95d88 52 = .ok (.lushr, 1) := by decide +kernel
theorem dJ13_bitCount_95d88_53 : decode cJ13_bitCount_95d88 53 = .ok (.ladd, 1) := by decide +kernel
theorem dJ13_bitCount_95d88_54 : decode cJ13_bitCount_95d88 54 = .ok (.lstore_n 0, 1) := by decide +kernel
theorem dJ13_bitCount_95d88_55 : decode cJ13_bitCount_95d88 55 = .ok (.lload_n 0, 1) := by decide +kernel
theorem dJ13_bitCount_95d88_56 : decode cJ13_bitCount_95d88 56 = .ok (.l2i, 1) := by decide +kernel
theorem dJ13_bitCount_95d88_57 : decode cJ13_bitCount_95d88 57 = .ok (.bipush 127, 2) := by decide +kernel
theorem dJ13_bitCount_95d88_59 : decode cJ13_bitCount_95d88 59 = .ok (.iand, 1) := by decide +kernel
theorem dJ13_bitCount_95d88_60 : decode cJ13_bitCount_95d88 60 = .ok (.ireturn, 1) := by decide +kernel
theorem dJ9_abs_0f7a4_0 : decode cJ9_abs_0f7a4 0 = .ok (.iload_n 0, 1) := by decide +kernel
theorem dJ9_abs_0f7a4_1 : decode cJ9_abs_0f7a4 1 = .ok (.ifCond .ge 8, 3) := by decide +kernel
theorem dJ9_abs_0f7a4_4 : decode cJ9_abs_0f7a4 4 = .ok (.iload_n 0, 1) := by decide +kernel
theorem dJ9_abs_0f7a4_5 : decode cJ9_abs_0f7a4 5 = .ok (.ineg, 1) := by decide +kernel
theorem dJ9_abs_0f7a4_6 : decode cJ9_abs_0f7a4 6 = .ok (.goto 4, 3) := by decide +kernel
theorem dJ9_abs_0f7a4_9 : decode cJ9_abs_0f7a4 9 = .ok (.iload_n 0, 1) := by decide +kernel
theorem dJ9_abs_0f7a4_10 : decode cJ9_abs_0f7a4 10 = .ok (.ireturn, 1) := by decide +kernel
theorem dJ9_max_7cf53_0 : decode cJ9_max_7cf53 0 = .ok (.iload_n 0, 1) := by decide +kernel
theorem dJ9_max_7cf53_1 : decode cJ9_max_7cf53 1 = .ok (.iload_n 1, 1) := by decide +kernel
theorem dJ9_max_7cf53_2 : decode cJ9_max_7cf53 2 = .ok (.if_icmp .lt 7, 3) := by decide +kernel
theorem dJ9_max_7cf53_5 : decode cJ9_max_7cf53 5 = .ok (.iload_n 0, 1) := by decide +kernel
theorem dJ9_max_7cf53_6 : decode cJ9_max_7cf53 6 = .ok (.goto 4, 3) := by decide +kernel
theorem dJ9_max_7cf53_9 : decode cJ9_max_7cf53 9 = .ok (.iload_n 1, 1) := by decide +kernel
theorem dJ9_max_7cf53_10 : decode cJ9_max_7cf53 10 = .ok (.ireturn, 1) := by decide +kernel
theorem dJ7_fill_53178_0 : decode cJ7_fill_53178 0 = .ok (.iconst 0, 1) := by decide +kernel
theorem dJ7_fill_53178_1 : decode cJ7_fill_53178 1 = .ok (.istore_n 2, 1) := by decide +kernel
theorem dJ7_fill_53178_2 : decode cJ7_fill_53178 2 = .ok (.aload_n 0, 1) := by decide +kernel
theorem dJ7_fill_53178_3 : decode cJ7_fill_53178 3 = .ok (.arraylength, 1) := by decide +kernel
theorem dJ7_fill_53178_4 : decode cJ7_fill_53178 4 = .ok (.istore_n 3, 1) := by decide +kernel
theorem dJ7_fill_53178_5 : decode cJ7_fill_53178 5 = .ok (.iload_n 2, 1) := by decide +kernel
theorem dJ7_fill_53178_6 : decode cJ7_fill_53178 6 = .ok (.iload_n 3, 1) := by decide +kernel
theorem dJ7_fill_53178_7 : decode cJ7_fill_53178 7 = .ok (.if_icmp .ge 13, 3) := by decide +kernel
theorem dJ7_fill_53178_10 : decode cJ7_fill_53178 10 = .ok (.aload_n 0, 1) := by decide +kernel
theorem dJ7_fill_53178_11 : decode cJ7_fill_53178 11 = .ok (.iload_n 2, 1) := by decide +kernel
theorem dJ7_fill_53178_12 : decode cJ7_fill_53178 12 = .ok (.iload_n 1, 1) := by decide +kernel
theorem dJ7_fill_53178_13 : decode cJ7_fill_53178 13 = .ok (.iastore, 1) := by decide +kernel
theorem dJ7_fill_53178_14 : decode cJ7_fill_53178 14 = .ok (.iinc 2 1, 3) := by decide +kernel
theorem dJ7_fill_53178_17 : decode cJ7_fill_53178 17 = .ok (.goto (-12), 3) := by decide +kernel
theorem dJ7_fill_53178_20 : decode cJ7_fill_53178 20 = .ok (.return_, 1) := by decide +kernel
set_option maxRecDepth 20000 in
theorem ggL_addPatrol_X5_addPatrol : GoodIn wsL_addPatrol wsX5_addPatrol := goodIn_ca (goodIn_r _ [6, 7, 8, 9, 10, 11, 12, 13, 14, 15, 16, 17, 18, 19, 20, 21, 22, 23, 24] (by decide +kernel) (by decide +kernel)) (goodIn_sub (fun _ h => List.mem_cons_of_mem _ (List.mem_append_right _ h)) (by decide +kernel))
set_option maxRecDepth 20000 in
theorem gL_addPatrol_X5_addPatrol : GoodIn wsL_addPatrol (wsV RL 7 RX5 yX5_addPatrol wsX5_addPatrol) := goodIn_app (goodIn_of _ (by decide +kernel)) ggL_addPatrol_X5_addPatrol
theorem dL_addPatrol_0 : decode cL_addPatrol 0 = .ok (.aload_n 1, 1) := by decide +kernel
theorem dL_addPatrol_1 : decode cL_addPatrol 1 = .ok (.iconst 0, 1) := by decide +kernel
theorem dL_addPatrol_2 : decode cL_addPatrol 2 = .ok (.aload_n 0, 1) := by decide +kernel
theorem dL_addPatrol_3 : decode cL_addPatrol 3 = .ok (.invokevirtual 7, 3) := by decide +kernel
theorem dL_addPatrol_6 : decode cL_addPatrol 6 = .ok (.i2l, 1) := by decide +kernel
theorem dL_addPatrol_7 : decode cL_addPatrol 7 = .ok (.lastore, 1) := by decide +kernel
theorem dL_addPatrol_8 : decode cL_addPatrol 8 = .ok (.goto 6, 3) := by decide +kernel
theorem dL_addPatrol_11 : decode cL_addPatrol 11 = .ok (.astore_n 2, 1) := by decide +kernel
theorem dL_addPatrol_12 : decode cL_addPatrol 12 = .ok (.iconst 1, 1) := by decide +kernel
theorem dL_addPatrol_13 : decode cL_addPatrol 13 = .ok (.ireturn, 1) := by decide +kernel
theorem dL_addPatrol_14 : decode cL_addPatrol 14 = .ok (.iconst 0, 1) := by decide +kernel
theorem dL_addPatrol_15 : decode cL_addPatrol 15 = .ok (.ireturn, 1) := by decide +kernel
set_option maxRecDepth 20000 in
theorem ggL_addScout_X5_addScout : GoodIn wsL_addScout wsX5_addScout := goodIn_ca (goodIn_ca (goodIn_ca (goodIn_r _ [8, 9, 10, 11, 12, 13, 14, 15, 7, 16, 17, 18, 19, 20, 21, 22, 23, 24, 25, 26, 27, 28, 29, 30, 31, 32, 33, 34, 35, 36, 37, 38, 39, 40, 41, 42, 43, 44, 45, 46] (by decide +kernel) (by decide +kernel)) (goodIn_sub (fun _ h => List.mem_cons_of_mem _ (List.mem_append_left _ (List.mem_append_left _ (List.mem_append_right _ h)))) (by decide +kernel))) (goodIn_sub (fun _ h => List.mem_cons_of_mem _ (List.mem_append_left _ (List.mem_append_right _ h))) (by decide +kernel))) (goodIn_sub (fun _ h => List.mem_cons_of_mem _ (List.mem_append_right _ h)) (by decide +kernel))
set_option maxRecDepth 20000 in
theorem gL_addScout_X5_addScout : GoodIn wsL_addScout (wsV RL 15 RX5 yX5_addScout wsX5_addScout) := goodIn_app (goodIn_of _ (by decide +kernel)) ggL_addScout_X5_addScout
theorem dL_addScout_0 : decode cL_addScout 0 = .ok (.aload 4, 2) := by decide +kernel
theorem dL_addScout_2 : decode cL_addScout 2 = .ok (.iconst 0, 1) := by decide +kernel
theorem dL_addScout_3 : decode cL_addScout 3 = .ok (.aload_n 0, 1) := by decide +kernel
theorem dL_addScout_4 : decode cL_addScout 4 = .ok (.iload_n 1, 1) := by decide +kernel
theorem dL_addScout_5 : decode cL_addScout 5 = .ok (.iload_n 2, 1) := by decide +kernel
theorem dL_addScout_6 : decode cL_addScout 6 = .ok (.iload_n 3, 1) := by decide +kernel
theorem dL_addScout_7 : decode cL_addScout 7 = .ok (.invokevirtual 15, 3) := by decide +kernel
theorem dL_addScout_10 : decode cL_addScout 10 = .ok (.i2l, 1) := by decide +kernel
theorem dL_addScout_11 : decode cL_addScout 11 = .ok (.lastore, 1) := by decide +kernel
theorem dL_addScout_12 : decode cL_addScout 12 = .ok (.goto 15, 3) := by decide +kernel
theorem dL_addScout_15 : decode cL_addScout 15 = .ok (.astore 5, 2) := by decide +kernel
theorem dL_addScout_17 : decode cL_addScout 17 = .ok (.iconst 1, 1) := by decide +kernel
theorem dL_addScout_18 : decode cL_addScout 18 = .ok (.ireturn, 1) := by decide +kernel
theorem dL_addScout_19 : decode cL_addScout 19 = .ok (.astore 5, 2) := by decide +kernel
theorem dL_addScout_21 : decode cL_addScout 21 = .ok (.iconst 2, 1) := by decide +kernel
theorem dL_addScout_22 : decode cL_addScout 22 = .ok (.ireturn, 1) := by decide +kernel
theorem dL_addScout_23 : decode cL_addScout 23 = .ok (.astore 5, 2) := by decide +kernel
theorem dL_addScout_25 : decode cL_addScout 25 = .ok (.iconst 3, 1) := by decide +kernel
theorem dL_addScout_26 : decode cL_addScout 26 = .ok (.ireturn, 1) := by decide +kernel
theorem dL_addScout_27 : decode cL_addScout 27 = .ok (.iconst 0, 1) := by decide +kernel
theorem dL_addScout_28 : decode cL_addScout 28 = .ok (.ireturn, 1) := by decide +kernel
set_option maxRecDepth 20000 in
theorem ggL_scout_X5_scout : GoodIn wsL_scout wsX5_scout := goodIn_ca (goodIn_r _ [6, 7, 8, 9, 10, 5, 11, 12, 13, 14, 15, 16, 17, 18, 19, 20, 21, 22, 23, 24, 25, 26, 27, 28, 29, 30, 31, 32, 33, 34, 35, 36, 37, 38, 39, 40, 41, 42, 43, 44, 45, 46, 47, 48, 49, 50, 51, 52, 53, 54, 55, 56, 57] (by decide +kernel) (by decide +kernel)) (goodIn_sub (fun _ h => List.mem_cons_of_mem _ (List.mem_append_right _ h)) (by decide +kernel))
set_option maxRecDepth 20000 in
theorem gL_scout_X5_scout : GoodIn wsL_scout (wsV RL 23 RX5 yX5_scout wsX5_scout) := goodIn_app (goodIn_of _ (by decide +kernel)) ggL_scout_X5_scout
theorem dL_scout_0 : decode cL_scout 0 = .ok (.aload_n 3, 1) := by decide +kernel
theorem dL_scout_1 : decode cL_scout 1 = .ok (.iconst 0, 1) := by decide +kernel
theorem dL_scout_2 : decode cL_scout 2 = .ok (.aload_n 0, 1) := by decide +kernel
theorem dL_scout_3 : decode cL_scout 3 = .ok (.iload_n 1, 1) := by decide +kernel
theorem dL_scout_4 : decode cL_scout 4 = .ok (.iload_n 2, 1) := by decide +kernel
theorem dL_scout_5 : decode cL_scout 5 = .ok (.invokevirtual 23, 3) := by decide +kernel
theorem dL_scout_8 : decode cL_scout 8 = .ok (.i2l, 1) := by decide +kernel
theorem dL_scout_9 : decode cL_scout 9 = .ok (.lastore, 1) := by decide +kernel
theorem dL_scout_10 : decode cL_scout 10 = .ok (.goto 7, 3) := by decide +kernel
theorem dL_scout_13 : decode cL_scout 13 = .ok (.astore 4, 2) := by decide +kernel
theorem dL_scout_15 : decode cL_scout 15 = .ok (.iconst 1, 1) := by decide +kernel
theorem dL_scout_16 : decode cL_scout 16 = .ok (.ireturn, 1) := by decide +kernel
theorem dL_scout_17 : decode cL_scout 17 = .ok (.iconst 0, 1) := by decide +kernel
theorem dL_scout_18 : decode cL_scout 18 = .ok (.ireturn, 1) := by decide +kernel
set_option maxRecDepth 20000 in
theorem ggL_addTent_X5_addTent : GoodIn wsL_addTent wsX5_addTent := goodIn_ca (goodIn_ca (goodIn_r _ [7, 8, 9, 10, 11, 12, 13, 6, 14, 15, 16, 17, 18, 19, 20, 21, 22, 23, 24, 25, 26, 27, 28, 29, 30, 31, 32] (by decide +kernel) (by decide +kernel)) (goodIn_sub (fun _ h => List.mem_cons_of_mem _ (List.mem_append_left _ (List.mem_append_right _ h))) (by decide +kernel))) (goodIn_sub (fun _ h => List.mem_cons_of_mem _ (List.mem_append_right _ h)) (by decide +kernel))
set_option maxRecDepth 20000 in
theorem gL_addTent_X5_addTent : GoodIn wsL_addTent (wsV RL 27 RX5 yX5_addTent wsX5_addTent) := goodIn_app (goodIn_of _ (by decide +kernel)) ggL_addTent_X5_addTent
theorem dL_addTent_0 : decode cL_addTent 0 = .ok (.aload_n 2, 1) := by decide +kernel
theorem dL_addTent_1 : decode cL_addTent 1 = .ok (.iconst 0, 1) := by decide +kernel
theorem dL_addTent_2 : decode cL_addTent 2 = .ok (.aload_n 0, 1) := by decide +kernel
theorem dL_addTent_3 : decode cL_addTent 3 = .ok (.iload_n 1, 1) := by decide +kernel
theorem dL_addTent_4 : decode cL_addTent 4 = .ok (.invokevirtual 27, 3) := by decide +kernel
theorem dL_addTent_7 : decode cL_addTent 7 = .ok (.i2l, 1) := by decide +kernel
theorem dL_addTent_8 : decode cL_addTent 8 = .ok (.lastore, 1) := by decide +kernel
theorem dL_addTent_9 : decode cL_addTent 9 = .ok (.goto 9, 3) := by decide +kernel
theorem dL_addTent_12 : decode cL_addTent 12 = .ok (.astore_n 3, 1) := by decide +kernel
theorem dL_addTent_13 : decode cL_addTent 13 = .ok (.iconst 1, 1) := by decide +kernel
theorem dL_addTent_14 : decode cL_addTent 14 = .ok (.ireturn, 1) := by decide +kernel
theorem dL_addTent_15 : decode cL_addTent 15 = .ok (.astore_n 3, 1) := by decide +kernel
theorem dL_addTent_16 : decode cL_addTent 16 = .ok (.iconst 2, 1) := by decide +kernel
theorem dL_addTent_17 : decode cL_addTent 17 = .ok (.ireturn, 1) := by decide +kernel
theorem dL_addTent_18 : decode cL_addTent 18 = .ok (.iconst 0, 1) := by decide +kernel
theorem dL_addTent_19 : decode cL_addTent 19 = .ok (.ireturn, 1) := by decide +kernel
set_option maxRecDepth 20000 in
theorem ggL_sleep_X5_sleep : GoodIn wsL_sleep wsX5_sleep := goodIn_ca (goodIn_ca (goodIn_r _ [7, 8, 9, 10, 11, 12, 13, 14, 15, 6, 16, 17, 18, 19, 20, 21, 22, 23, 24, 25, 26, 27, 28, 29, 30, 31, 32, 33, 34, 35, 36, 37, 38, 39, 40, 41, 42, 43, 44, 45, 46, 47, 48, 49, 50, 51, 52, 53, 54, 55, 56, 57, 58, 59, 60, 61, 62, 63, 64, 65, 66, 67, 68, 69, 70, 71, 72, 73, 74, 75, 76] (by decide +kernel) (by decide +kernel)) (goodIn_sub (fun _ h => List.mem_cons_of_mem _ (List.mem_append_left _ (List.mem_append_right _ h))) (by decide +kernel))) (goodIn_sub (fun _ h => List.mem_cons_of_mem _ (List.mem_append_right _ h)) (by decide +kernel))
set_option maxRecDepth 20000 in
theorem gL_sleep_X5_sleep : GoodIn wsL_sleep (wsV RL 31 RX5 yX5_sleep wsX5_sleep) := goodIn_app (goodIn_of _ (by decide +kernel)) ggL_sleep_X5_sleep
theorem dL_sleep_0 : decode cL_sleep 0 = .ok (.aload_n 3, 1) := by decide +kernel
theorem dL_sleep_1 : decode cL_sleep 1 = .ok (.iconst 0, 1) := by decide +kernel
theorem dL_sleep_2 : decode cL_sleep 2 = .ok (.aload_n 0, 1) := by decide +kernel
theorem dL_sleep_3 : decode cL_sleep 3 = .ok (.iload_n 1, 1) := by decide +kernel
theorem dL_sleep_4 : decode cL_sleep 4 = .ok (.iload_n 2, 1) := by decide +kernel
theorem dL_sleep_5 : decode cL_sleep 5 = .ok (.invokevirtual 31, 3) := by decide +kernel
theorem dL_sleep_8 : decode cL_sleep 8 = .ok (.i2l, 1) := by decide +kernel
theorem dL_sleep_9 : decode cL_sleep 9 = .ok (.lastore, 1) := by decide +kernel
theorem dL_sleep_10 : decode cL_sleep 10 = .ok (.goto 11, 3) := by decide +kernel
theorem dL_sleep_13 : decode cL_sleep 13 = .ok (.astore 4, 2) := by decide +kernel
theorem dL_sleep_15 : decode cL_sleep 15 = .ok (.iconst 1, 1) := by decide +kernel
theorem dL_sleep_16 : decode cL_sleep 16 = .ok (.ireturn, 1) := by decide +kernel
theorem dL_sleep_17 : decode cL_sleep 17 = .ok (.astore 4, 2) := by decide +kernel
theorem dL_sleep_19 : decode cL_sleep 19 = .ok (.iconst 2, 1) := by decide +kernel
theorem dL_sleep_20 : decode cL_sleep 20 = .ok (.ireturn, 1) := by decide +kernel
theorem dL_sleep_21 : decode cL_sleep 21 = .ok (.iconst 0, 1) := by decide +kernel
theorem dL_sleep_22 : decode cL_sleep 22 = .ok (.ireturn, 1) := by decide +kernel
set_option maxRecDepth 20000 in
theorem ggL_inTent_X5_inTent : GoodIn wsL_inTent wsX5_inTent := goodIn_ca (goodIn_r _ [6, 7, 8, 9, 10, 11, 5, 12, 13, 14, 15, 16, 17, 18, 19, 20, 21, 22, 23] (by decide +kernel) (by decide +kernel)) (goodIn_sub (fun _ h => List.mem_cons_of_mem _ (List.mem_append_right _ h)) (by decide +kernel))
set_option maxRecDepth 20000 in
theorem gL_inTent_X5_inTent : GoodIn wsL_inTent (wsV RL 34 RX5 yX5_inTent wsX5_inTent) := goodIn_app (goodIn_of _ (by decide +kernel)) ggL_inTent_X5_inTent
theorem dL_inTent_0 : decode cL_inTent 0 = .ok (.aload_n 2, 1) := by decide +kernel
theorem dL_inTent_1 : decode cL_inTent 1 = .ok (.iconst 0, 1) := by decide +kernel
theorem dL_inTent_2 : decode cL_inTent 2 = .ok (.aload_n 0, 1) := by decide +kernel
theorem dL_inTent_3 : decode cL_inTent 3 = .ok (.iload_n 1, 1) := by decide +kernel
theorem dL_inTent_4 : decode cL_inTent 4 = .ok (.invokevirtual 34, 3) := by decide +kernel
theorem dL_inTent_7 : decode cL_inTent 7 = .ok (.lastore, 1) := by decide +kernel
theorem dL_inTent_8 : decode cL_inTent 8 = .ok (.goto 6, 3) := by decide +kernel
theorem dL_inTent_11 : decode cL_inTent 11 = .ok (.astore_n 3, 1) := by decide +kernel
theorem dL_inTent_12 : decode cL_inTent 12 = .ok (.iconst 1, 1) := by decide +kernel
theorem dL_inTent_13 : decode cL_inTent 13 = .ok (.ireturn, 1) := by decide +kernel
theorem dL_inTent_14 : decode cL_inTent 14 = .ok (.iconst 0, 1) := by decide +kernel
theorem dL_inTent_15 : decode cL_inTent 15 = .ok (.ireturn, 1) := by decide +kernel
set_option maxRecDepth 20000 in
theorem ggL_count_X5_count : GoodIn wsL_count wsX5_count := goodIn_ca (goodIn_r _ [6, 7, 8, 5, 9, 10, 11, 12, 13, 14, 15, 16, 17, 18, 19, 20, 21, 22, 23, 24, 25, 26, 27, 28, 29, 30, 31, 32, 33, 34, 35, 36, 37, 38, 39, 40, 41, 42, 43, 44, 45, 46, 47, 48, 49, 50, 51, 52, 53, 54, 55, 56, 57, 58, 59, 60, 61, 62, 63, 64, 65, 66, 67, 68, 69] (by decide +kernel) (by decide +kernel)) (goodIn_sub (fun _ h => List.mem_cons_of_mem _ (List.mem_append_right _ h)) (by decide +kernel))
set_option maxRecDepth 20000 in
theorem gL_count_X5_count : GoodIn wsL_count (wsV RL 38 RX5 yX5_count wsX5_count) := goodIn_app (goodIn_of _ (by decide +kernel)) ggL_count_X5_count
theorem dL_count_0 : decode cL_count 0 = .ok (.aload_n 2, 1) := by decide +kernel
theorem dL_count_1 : decode cL_count 1 = .ok (.iconst 0, 1) := by decide +kernel
theorem dL_count_2 : decode cL_count 2 = .ok (.aload_n 0, 1) := by decide +kernel
theorem dL_count_3 : decode cL_count 3 = .ok (.iload_n 1, 1) := by decide +kernel
theorem dL_count_4 : decode cL_count 4 = .ok (.invokevirtual 38, 3) := by decide +kernel
theorem dL_count_7 : decode cL_count 7 = .ok (.i2l, 1) := by decide +kernel
theorem dL_count_8 : decode cL_count 8 = .ok (.lastore, 1) := by decide +kernel
theorem dL_count_9 : decode cL_count 9 = .ok (.goto 6, 3) := by decide +kernel
theorem dL_count_12 : decode cL_count 12 = .ok (.astore_n 3, 1) := by decide +kernel
theorem dL_count_13 : decode cL_count 13 = .ok (.iconst 1, 1) := by decide +kernel
theorem dL_count_14 : decode cL_count 14 = .ok (.ireturn, 1) := by decide +kernel
theorem dL_count_15 : decode cL_count 15 = .ok (.iconst 0, 1) := by decide +kernel
theorem dL_count_16 : decode cL_count 16 = .ok (.ireturn, 1) := by decide +kernel
set_option maxRecDepth 20000 in
theorem ggL_giveDuty_X5_giveDuty : GoodIn wsL_giveDuty wsX5_giveDuty := goodIn_ca (goodIn_ca (goodIn_ca (goodIn_r _ [8, 9, 10, 11, 12, 13, 14, 15, 16, 7, 17, 18, 19, 20, 21, 22, 23, 24, 25, 26, 27, 28, 29, 30, 31, 32, 33, 34, 35, 36, 37, 38, 39, 40, 41, 42, 43, 44, 45, 46, 47, 48, 49, 50, 51, 52, 53, 54, 55, 56, 57, 58, 59, 60, 61, 62, 63, 64, 65, 66, 67, 68, 69, 70, 71, 72, 73, 74, 75, 76, 77, 78, 79, 80] (by decide +kernel) (by decide +kernel)) (goodIn_sub (fun _ h => List.mem_cons_of_mem _ (List.mem_append_left _ (List.mem_append_left _ (List.mem_append_right _ h)))) (by decide +kernel))) (goodIn_sub (fun _ h => List.mem_cons_of_mem _ (List.mem_append_left _ (List.mem_append_right _ h))) (by decide +kernel))) (goodIn_sub (fun _ h => List.mem_cons_of_mem _ (List.mem_append_right _ h)) (by decide +kernel))
set_option maxRecDepth 20000 in
theorem gL_giveDuty_X5_giveDuty : GoodIn wsL_giveDuty (wsV RL 41 RX5 yX5_giveDuty wsX5_giveDuty) := goodIn_app (goodIn_of _ (by decide +kernel)) ggL_giveDuty_X5_giveDuty
theorem dL_giveDuty_0 : decode cL_giveDuty 0 = .ok (.aload 4, 2) := by decide +kernel
theorem dL_giveDuty_2 : decode cL_giveDuty 2 = .ok (.iconst 0, 1) := by decide +kernel
theorem dL_giveDuty_3 : decode cL_giveDuty 3 = .ok (.aload_n 0, 1) := by decide +kernel
theorem dL_giveDuty_4 : decode cL_giveDuty 4 = .ok (.iload_n 1, 1) := by decide +kernel
theorem dL_giveDuty_5 : decode cL_giveDuty 5 = .ok (.iload_n 2, 1) := by decide +kernel
theorem dL_giveDuty_6 : decode cL_giveDuty 6 = .ok (.iload_n 3, 1) := by decide +kernel
theorem dL_giveDuty_7 : decode cL_giveDuty 7 = .ok (.invokevirtual 41, 3) := by decide +kernel
theorem dL_giveDuty_10 : decode cL_giveDuty 10 = .ok (.i2l, 1) := by decide +kernel
theorem dL_giveDuty_11 : decode cL_giveDuty 11 = .ok (.lastore, 1) := by decide +kernel
theorem dL_giveDuty_12 : decode cL_giveDuty 12 = .ok (.goto 15, 3) := by decide +kernel
theorem dL_giveDuty_15 : decode cL_giveDuty 15 = .ok (.astore 5, 2) := by decide +kernel
theorem dL_giveDuty_17 : decode cL_giveDuty 17 = .ok (.iconst 1, 1) := by decide +kernel
theorem dL_giveDuty_18 : decode cL_giveDuty 18 = .ok (.ireturn, 1) := by decide +kernel
theorem dL_giveDuty_19 : decode cL_giveDuty 19 = .ok (.astore 5, 2) := by decide +kernel
theorem dL_giveDuty_21 : decode cL_giveDuty 21 = .ok (.iconst 2, 1) := by decide +kernel
theorem dL_giveDuty_22 : decode cL_giveDuty 22 = .ok (.ireturn, 1) := by decide +kernel
theorem dL_giveDuty_23 : decode cL_giveDuty 23 = .ok (.astore 5, 2) := by decide +kernel
theorem dL_giveDuty_25 : decode cL_giveDuty 25 = .ok (.iconst 3, 1) := by decide +kernel
theorem dL_giveDuty_26 : decode cL_giveDuty 26 = .ok (.ireturn, 1) := by decide +kernel
theorem dL_giveDuty_27 : decode cL_giveDuty 27 = .ok (.iconst 0, 1) := by decide +kernel
theorem dL_giveDuty_28 : decode cL_giveDuty 28 = .ok (.ireturn, 1) := by decide +kernel
set_option maxRecDepth 20000 in
theorem ggL_duty_X5_duty : GoodIn wsL_duty wsX5_duty := goodIn_ca (goodIn_r _ [6, 7, 8, 9, 5, 10, 11, 12, 13, 14, 15, 16, 17, 18, 19, 20, 21, 22, 23, 24, 25, 26] (by decide +kernel) (by decide +kernel)) (goodIn_sub (fun _ h => List.mem_cons_of_mem _ (List.mem_append_right _ h)) (by decide +kernel))
set_option maxRecDepth 20000 in
theorem gL_duty_X5_duty : GoodIn wsL_duty (wsV RL 44 RX5 yX5_duty wsX5_duty) := goodIn_app (goodIn_of _ (by decide +kernel)) ggL_duty_X5_duty
theorem dL_duty_0 : decode cL_duty 0 = .ok (.aload_n 3, 1) := by decide +kernel
theorem dL_duty_1 : decode cL_duty 1 = .ok (.iconst 0, 1) := by decide +kernel
theorem dL_duty_2 : decode cL_duty 2 = .ok (.aload_n 0, 1) := by decide +kernel
theorem dL_duty_3 : decode cL_duty 3 = .ok (.iload_n 1, 1) := by decide +kernel
theorem dL_duty_4 : decode cL_duty 4 = .ok (.iload_n 2, 1) := by decide +kernel
theorem dL_duty_5 : decode cL_duty 5 = .ok (.invokevirtual 44, 3) := by decide +kernel
theorem dL_duty_8 : decode cL_duty 8 = .ok (.i2l, 1) := by decide +kernel
theorem dL_duty_9 : decode cL_duty 9 = .ok (.lastore, 1) := by decide +kernel
theorem dL_duty_10 : decode cL_duty 10 = .ok (.goto 7, 3) := by decide +kernel
theorem dL_duty_13 : decode cL_duty 13 = .ok (.astore 4, 2) := by decide +kernel
theorem dL_duty_15 : decode cL_duty 15 = .ok (.iconst 1, 1) := by decide +kernel
theorem dL_duty_16 : decode cL_duty 16 = .ok (.ireturn, 1) := by decide +kernel
theorem dL_duty_17 : decode cL_duty 17 = .ok (.iconst 0, 1) := by decide +kernel
theorem dL_duty_18 : decode cL_duty 18 = .ok (.ireturn, 1) := by decide +kernel
set_option maxRecDepth 20000 in
theorem ggL_points_X5_points : GoodIn wsL_points wsX5_points := goodIn_ca (goodIn_r _ [6, 7, 8, 9, 10, 11, 12, 5, 13, 14, 15, 16, 17, 18, 19, 20, 21, 22, 23, 24, 25, 26, 27, 28, 29, 30, 31] (by decide +kernel) (by decide +kernel)) (goodIn_sub (fun _ h => List.mem_cons_of_mem _ (List.mem_append_right _ h)) (by decide +kernel))
set_option maxRecDepth 20000 in
theorem gL_points_X5_points : GoodIn wsL_points (wsV RL 47 RX5 yX5_points wsX5_points) := goodIn_app (goodIn_of _ (by decide +kernel)) ggL_points_X5_points
theorem dL_points_0 : decode cL_points 0 = .ok (.aload_n 2, 1) := by decide +kernel
theorem dL_points_1 : decode cL_points 1 = .ok (.iconst 0, 1) := by decide +kernel
theorem dL_points_2 : decode cL_points 2 = .ok (.aload_n 0, 1) := by decide +kernel
theorem dL_points_3 : decode cL_points 3 = .ok (.iload_n 1, 1) := by decide +kernel
theorem dL_points_4 : decode cL_points 4 = .ok (.invokevirtual 47, 3) := by decide +kernel
theorem dL_points_7 : decode cL_points 7 = .ok (.i2l, 1) := by decide +kernel
theorem dL_points_8 : decode cL_points 8 = .ok (.lastore, 1) := by decide +kernel
theorem dL_points_9 : decode cL_points 9 = .ok (.goto 6, 3) := by decide +kernel
theorem dL_points_12 : decode cL_points 12 = .ok (.astore_n 3, 1) := by decide +kernel
theorem dL_points_13 : decode cL_points 13 = .ok (.iconst 1, 1) := by decide +kernel
theorem dL_points_14 : decode cL_points 14 = .ok (.ireturn, 1) := by decide +kernel
theorem dL_points_15 : decode cL_points 15 = .ok (.iconst 0, 1) := by decide +kernel
theorem dL_points_16 : decode cL_points 16 = .ok (.ireturn, 1) := by decide +kernel
set_option maxRecDepth 20000 in
theorem ggL_addFood_X5_addFood : GoodIn wsL_addFood wsX5_addFood := goodIn_ca (goodIn_ca (goodIn_r _ [7, 8, 9, 10, 11, 12, 13, 14, 6, 15, 16, 17, 18, 19, 20, 21, 22, 23, 24, 25, 26, 27, 28, 29] (by decide +kernel) (by decide +kernel)) (goodIn_sub (fun _ h => List.mem_cons_of_mem _ (List.mem_append_left _ (List.mem_append_right _ h))) (by decide +kernel))) (goodIn_sub (fun _ h => List.mem_cons_of_mem _ (List.mem_append_right _ h)) (by decide +kernel))
set_option maxRecDepth 20000 in
theorem gL_addFood_X5_addFood : GoodIn wsL_addFood (wsV RL 50 RX5 yX5_addFood wsX5_addFood) := goodIn_app (goodIn_of _ (by decide +kernel)) ggL_addFood_X5_addFood
theorem dL_addFood_0 : decode cL_addFood 0 = .ok (.aload_n 2, 1) := by decide +kernel
theorem dL_addFood_1 : decode cL_addFood 1 = .ok (.iconst 0, 1) := by decide +kernel
theorem dL_addFood_2 : decode cL_addFood 2 = .ok (.aload_n 0, 1) := by decide +kernel
theorem dL_addFood_3 : decode cL_addFood 3 = .ok (.iload_n 1, 1) := by decide +kernel
theorem dL_addFood_4 : decode cL_addFood 4 = .ok (.invokevirtual 50, 3) := by decide +kernel
theorem dL_addFood_7 : decode cL_addFood 7 = .ok (.i2l, 1) := by decide +kernel
theorem dL_addFood_8 : decode cL_addFood 8 = .ok (.lastore, 1) := by decide +kernel
theorem dL_addFood_9 : decode cL_addFood 9 = .ok (.goto 9, 3) := by decide +kernel
theorem dL_addFood_12 : decode cL_addFood 12 = .ok (.astore_n 3, 1) := by decide +kernel
theorem dL_addFood_13 : decode cL_addFood 13 = .ok (.iconst 1, 1) := by decide +kernel
theorem dL_addFood_14 : decode cL_addFood 14 = .ok (.ireturn, 1) := by decide +kernel
theorem dL_addFood_15 : decode cL_addFood 15 = .ok (.astore_n 3, 1) := by decide +kernel
theorem dL_addFood_16 : decode cL_addFood 16 = .ok (.iconst 2, 1) := by decide +kernel
theorem dL_addFood_17 : decode cL_addFood 17 = .ok (.ireturn, 1) := by decide +kernel
theorem dL_addFood_18 : decode cL_addFood 18 = .ok (.iconst 0, 1) := by decide +kernel
theorem dL_addFood_19 : decode cL_addFood 19 = .ok (.ireturn, 1) := by decide +kernel
set_option maxRecDepth 20000 in
theorem ggL_buy_X5_buy : GoodIn wsL_buy wsX5_buy := goodIn_ca (goodIn_ca (goodIn_ca (goodIn_r _ [8, 9, 10, 11, 12, 13, 14, 15, 7, 16, 17, 18, 19, 20, 21, 22, 23, 24, 25, 26, 27, 28, 29, 30, 31, 32, 33, 34, 35] (by decide +kernel) (by decide +kernel)) (goodIn_sub (fun _ h => List.mem_cons_of_mem _ (List.mem_append_left _ (List.mem_append_left _ (List.mem_append_right _ h)))) (by decide +kernel))) (goodIn_sub (fun _ h => List.mem_cons_of_mem _ (List.mem_append_left _ (List.mem_append_right _ h))) (by decide +kernel))) (goodIn_sub (fun _ h => List.mem_cons_of_mem _ (List.mem_append_right _ h)) (by decide +kernel))
set_option maxRecDepth 20000 in
theorem gL_buy_X5_buy : GoodIn wsL_buy (wsV RL 53 RX5 yX5_buy wsX5_buy) := goodIn_app (goodIn_of _ (by decide +kernel)) ggL_buy_X5_buy
theorem dL_buy_0 : decode cL_buy 0 = .ok (.aload_n 3, 1) := by decide +kernel
theorem dL_buy_1 : decode cL_buy 1 = .ok (.iconst 0, 1) := by decide +kernel
theorem dL_buy_2 : decode cL_buy 2 = .ok (.aload_n 0, 1) := by decide +kernel
theorem dL_buy_3 : decode cL_buy 3 = .ok (.iload_n 1, 1) := by decide +kernel
theorem dL_buy_4 : decode cL_buy 4 = .ok (.iload_n 2, 1) := by decide +kernel
theorem dL_buy_5 : decode cL_buy 5 = .ok (.invokevirtual 53, 3) := by decide +kernel
theorem dL_buy_8 : decode cL_buy 8 = .ok (.i2l, 1) := by decide +kernel
theorem dL_buy_9 : decode cL_buy 9 = .ok (.lastore, 1) := by decide +kernel
theorem dL_buy_10 : decode cL_buy 10 = .ok (.goto 15, 3) := by decide +kernel
theorem dL_buy_13 : decode cL_buy 13 = .ok (.astore 4, 2) := by decide +kernel
theorem dL_buy_15 : decode cL_buy 15 = .ok (.iconst 1, 1) := by decide +kernel
theorem dL_buy_16 : decode cL_buy 16 = .ok (.ireturn, 1) := by decide +kernel
theorem dL_buy_17 : decode cL_buy 17 = .ok (.astore 4, 2) := by decide +kernel
theorem dL_buy_19 : decode cL_buy 19 = .ok (.iconst 2, 1) := by decide +kernel
theorem dL_buy_20 : decode cL_buy 20 = .ok (.ireturn, 1) := by decide +kernel
theorem dL_buy_21 : decode cL_buy 21 = .ok (.astore 4, 2) := by decide +kernel
theorem dL_buy_23 : decode cL_buy 23 = .ok (.iconst 3, 1) := by decide +kernel
theorem dL_buy_24 : decode cL_buy 24 = .ok (.ireturn, 1) := by decide +kernel
theorem dL_buy_25 : decode cL_buy 25 = .ok (.iconst 0, 1) := by decide +kernel
theorem dL_buy_26 : decode cL_buy 26 = .ok (.ireturn, 1) := by decide +kernel
set_option maxRecDepth 20000 in
theorem ggL_store_X5_store : GoodIn wsL_store wsX5_store := goodIn_ca (goodIn_r _ [6, 7, 8, 9, 10, 11, 5, 12, 13, 14, 15, 16, 17, 18, 19, 20, 21, 22, 23, 24, 25, 26] (by decide +kernel) (by decide +kernel)) (goodIn_sub (fun _ h => List.mem_cons_of_mem _ (List.mem_append_right _ h)) (by decide +kernel))
set_option maxRecDepth 20000 in
theorem gL_store_X5_store : GoodIn wsL_store (wsV RL 56 RX5 yX5_store wsX5_store) := goodIn_app (goodIn_of _ (by decide +kernel)) ggL_store_X5_store
theorem dL_store_0 : decode cL_store 0 = .ok (.aload_n 2, 1) := by decide +kernel
theorem dL_store_1 : decode cL_store 1 = .ok (.iconst 0, 1) := by decide +kernel
theorem dL_store_2 : decode cL_store 2 = .ok (.aload_n 0, 1) := by decide +kernel
theorem dL_store_3 : decode cL_store 3 = .ok (.iload_n 1, 1) := by decide +kernel
theorem dL_store_4 : decode cL_store 4 = .ok (.invokevirtual 56, 3) := by decide +kernel
theorem dL_store_7 : decode cL_store 7 = .ok (.i2l, 1) := by decide +kernel
theorem dL_store_8 : decode cL_store 8 = .ok (.lastore, 1) := by decide +kernel
theorem dL_store_9 : decode cL_store 9 = .ok (.goto 6, 3) := by decide +kernel
theorem dL_store_12 : decode cL_store 12 = .ok (.astore_n 3, 1) := by decide +kernel
theorem dL_store_13 : decode cL_store 13 = .ok (.iconst 1, 1) := by decide +kernel
theorem dL_store_14 : decode cL_store 14 = .ok (.ireturn, 1) := by decide +kernel
theorem dL_store_15 : decode cL_store 15 = .ok (.iconst 0, 1) := by decide +kernel
theorem dL_store_16 : decode cL_store 16 = .ok (.ireturn, 1) := by decide +kernel
set_option maxRecDepth 20000 in
theorem ggL_diet_X5_diet : GoodIn wsL_diet wsX5_diet := goodIn_ca (goodIn_r _ [6, 7, 8, 9, 10, 11, 12, 13, 5, 14, 15, 16, 17, 18, 19, 20, 21, 22, 23, 24, 25, 26, 27, 28, 29, 30, 31, 32, 33, 34, 35, 36] (by decide +kernel) (by decide +kernel)) (goodIn_sub (fun _ h => List.mem_cons_of_mem _ (List.mem_append_right _ h)) (by decide +kernel))
set_option maxRecDepth 20000 in
theorem gL_diet_X5_diet : GoodIn wsL_diet (wsV RL 59 RX5 yX5_diet wsX5_diet) := goodIn_app (goodIn_of _ (by decide +kernel)) ggL_diet_X5_diet
theorem dL_diet_0 : decode cL_diet 0 = .ok (.aload 4, 2) := by decide +kernel
theorem dL_diet_2 : decode cL_diet 2 = .ok (.iconst 0, 1) := by decide +kernel
theorem dL_diet_3 : decode cL_diet 3 = .ok (.aload_n 0, 1) := by decide +kernel
theorem dL_diet_4 : decode cL_diet 4 = .ok (.iload_n 1, 1) := by decide +kernel
theorem dL_diet_5 : decode cL_diet 5 = .ok (.iload_n 2, 1) := by decide +kernel
theorem dL_diet_6 : decode cL_diet 6 = .ok (.iload_n 3, 1) := by decide +kernel
theorem dL_diet_7 : decode cL_diet 7 = .ok (.invokevirtual 59, 3) := by decide +kernel
theorem dL_diet_10 : decode cL_diet 10 = .ok (.ifCond .eq 7, 3) := by decide +kernel
theorem dL_diet_13 : decode cL_diet 13 = .ok (.lconst 1, 1) := by decide +kernel
theorem dL_diet_14 : decode cL_diet 14 = .ok (.goto 4, 3) := by decide +kernel
theorem dL_diet_17 : decode cL_diet 17 = .ok (.lconst 0, 1) := by decide +kernel
theorem dL_diet_18 : decode cL_diet 18 = .ok (.lastore, 1) := by decide +kernel
theorem dL_diet_19 : decode cL_diet 19 = .ok (.goto 7, 3) := by decide +kernel
theorem dL_diet_22 : decode cL_diet 22 = .ok (.astore 5, 2) := by decide +kernel
theorem dL_diet_24 : decode cL_diet 24 = .ok (.iconst 1, 1) := by decide +kernel
theorem dL_diet_25 : decode cL_diet 25 = .ok (.ireturn, 1) := by decide +kernel
theorem dL_diet_26 : decode cL_diet 26 = .ok (.iconst 0, 1) := by decide +kernel
theorem dL_diet_27 : decode cL_diet 27 = .ok (.ireturn, 1) := by decide +kernel
set_option maxRecDepth 20000 in
theorem ggL_addMeal_X5_addMeal : GoodIn wsL_addMeal wsX5_addMeal := goodIn_ca (goodIn_r _ [6, 7, 8, 9, 10, 11, 12, 13, 14, 15, 16, 17, 18, 19, 20, 21, 22] (by decide +kernel) (by decide +kernel)) (goodIn_sub (fun _ h => List.mem_cons_of_mem _ (List.mem_append_right _ h)) (by decide +kernel))
set_option maxRecDepth 20000 in
theorem gL_addMeal_X5_addMeal : GoodIn wsL_addMeal (wsV RL 63 RX5 yX5_addMeal wsX5_addMeal) := goodIn_app (goodIn_of _ (by decide +kernel)) ggL_addMeal_X5_addMeal
theorem dL_addMeal_0 : decode cL_addMeal 0 = .ok (.aload_n 1, 1) := by decide +kernel
theorem dL_addMeal_1 : decode cL_addMeal 1 = .ok (.iconst 0, 1) := by decide +kernel
theorem dL_addMeal_2 : decode cL_addMeal 2 = .ok (.aload_n 0, 1) := by decide +kernel
theorem dL_addMeal_3 : decode cL_addMeal 3 = .ok (.invokevirtual 63, 3) := by decide +kernel
theorem dL_addMeal_6 : decode cL_addMeal 6 = .ok (.i2l, 1) := by decide +kernel
theorem dL_addMeal_7 : decode cL_addMeal 7 = .ok (.lastore, 1) := by decide +kernel
theorem dL_addMeal_8 : decode cL_addMeal 8 = .ok (.goto 6, 3) := by decide +kernel
theorem dL_addMeal_11 : decode cL_addMeal 11 = .ok (.astore_n 2, 1) := by decide +kernel
theorem dL_addMeal_12 : decode cL_addMeal 12 = .ok (.iconst 1, 1) := by decide +kernel
theorem dL_addMeal_13 : decode cL_addMeal 13 = .ok (.ireturn, 1) := by decide +kernel
theorem dL_addMeal_14 : decode cL_addMeal 14 = .ok (.iconst 0, 1) := by decide +kernel
theorem dL_addMeal_15 : decode cL_addMeal 15 = .ok (.ireturn, 1) := by decide +kernel
set_option maxRecDepth 20000 in
theorem ggL_need_X5_need : GoodIn wsL_need wsX5_need := goodIn_ca (goodIn_ca (goodIn_r _ [7, 8, 9, 10, 11, 12, 13, 6, 14, 15, 16, 17, 18, 19, 20, 21, 22, 23, 24, 25, 26, 27, 28, 29, 30, 31, 32, 33, 34, 35, 36, 37, 38, 39] (by decide +kernel) (by decide +kernel)) (goodIn_sub (fun _ h => List.mem_cons_of_mem _ (List.mem_append_left _ (List.mem_append_right _ h))) (by decide +kernel))) (goodIn_sub (fun _ h => List.mem_cons_of_mem _ (List.mem_append_right _ h)) (by decide +kernel))
set_option maxRecDepth 20000 in
theorem gL_need_X5_need : GoodIn wsL_need (wsV RL 66 RX5 yX5_need wsX5_need) := goodIn_app (goodIn_of _ (by decide +kernel)) ggL_need_X5_need
theorem dL_need_0 : decode cL_need 0 = .ok (.aload 4, 2) := by decide +kernel
theorem dL_need_2 : decode cL_need 2 = .ok (.iconst 0, 1) := by decide +kernel
theorem dL_need_3 : decode cL_need 3 = .ok (.aload_n 0, 1) := by decide +kernel
theorem dL_need_4 : decode cL_need 4 = .ok (.iload_n 1, 1) := by decide +kernel
theorem dL_need_5 : decode cL_need 5 = .ok (.iload_n 2, 1) := by decide +kernel
theorem dL_need_6 : decode cL_need 6 = .ok (.iload_n 3, 1) := by decide +kernel
theorem dL_need_7 : decode cL_need 7 = .ok (.invokevirtual 66, 3) := by decide +kernel
theorem dL_need_10 : decode cL_need 10 = .ok (.i2l, 1) := by decide +kernel
theorem dL_need_11 : decode cL_need 11 = .ok (.lastore, 1) := by decide +kernel
theorem dL_need_12 : decode cL_need 12 = .ok (.goto 11, 3) := by decide +kernel
theorem dL_need_15 : decode cL_need 15 = .ok (.astore 5, 2) := by decide +kernel
theorem dL_need_17 : decode cL_need 17 = .ok (.iconst 1, 1) := by decide +kernel
theorem dL_need_18 : decode cL_need 18 = .ok (.ireturn, 1) := by decide +kernel
theorem dL_need_19 : decode cL_need 19 = .ok (.astore 5, 2) := by decide +kernel
theorem dL_need_21 : decode cL_need 21 = .ok (.iconst 2, 1) := by decide +kernel
theorem dL_need_22 : decode cL_need 22 = .ok (.ireturn, 1) := by decide +kernel
theorem dL_need_23 : decode cL_need 23 = .ok (.iconst 0, 1) := by decide +kernel
theorem dL_need_24 : decode cL_need 24 = .ok (.ireturn, 1) := by decide +kernel
set_option maxRecDepth 20000 in
theorem ggL_eaters_X5_eaters : GoodIn wsL_eaters wsX5_eaters := goodIn_ca (goodIn_r _ [6, 7, 8, 9, 10, 11, 5, 12, 13, 14, 15, 16, 17, 18, 19, 20, 21, 22, 23, 24, 25, 26, 27, 28, 29, 30, 31, 32, 33, 34, 35, 36, 37, 38, 39, 40, 41, 42, 43, 44, 45, 46, 47, 48, 49, 50, 51] (by decide +kernel) (by decide +kernel)) (goodIn_sub (fun _ h => List.mem_cons_of_mem _ (List.mem_append_right _ h)) (by decide +kernel))
set_option maxRecDepth 20000 in
theorem gL_eaters_X5_eaters : GoodIn wsL_eaters (wsV RL 69 RX5 yX5_eaters wsX5_eaters) := goodIn_app (goodIn_of _ (by decide +kernel)) ggL_eaters_X5_eaters
theorem dL_eaters_0 : decode cL_eaters 0 = .ok (.aload_n 2, 1) := by decide +kernel
theorem dL_eaters_1 : decode cL_eaters 1 = .ok (.iconst 0, 1) := by decide +kernel
theorem dL_eaters_2 : decode cL_eaters 2 = .ok (.aload_n 0, 1) := by decide +kernel
theorem dL_eaters_3 : decode cL_eaters 3 = .ok (.iload_n 1, 1) := by decide +kernel
theorem dL_eaters_4 : decode cL_eaters 4 = .ok (.invokevirtual 69, 3) := by decide +kernel
theorem dL_eaters_7 : decode cL_eaters 7 = .ok (.lastore, 1) := by decide +kernel
theorem dL_eaters_8 : decode cL_eaters 8 = .ok (.goto 6, 3) := by decide +kernel
theorem dL_eaters_11 : decode cL_eaters 11 = .ok (.astore_n 3, 1) := by decide +kernel
theorem dL_eaters_12 : decode cL_eaters 12 = .ok (.iconst 1, 1) := by decide +kernel
theorem dL_eaters_13 : decode cL_eaters 13 = .ok (.ireturn, 1) := by decide +kernel
theorem dL_eaters_14 : decode cL_eaters 14 = .ok (.iconst 0, 1) := by decide +kernel
theorem dL_eaters_15 : decode cL_eaters 15 = .ok (.ireturn, 1) := by decide +kernel
set_option maxRecDepth 20000 in
theorem ggL_lacks_X5_lacks : GoodIn wsL_lacks wsX5_lacks := goodIn_ca (goodIn_ca (goodIn_r _ [7, 8, 9, 10, 11, 12, 13, 14, 15, 16, 17, 18, 6, 19, 20, 21, 22, 23, 24, 25, 26, 27, 28, 29, 30, 31, 32, 33, 34, 35, 36, 37, 38, 39, 40, 41, 42, 43, 44, 45, 46, 47, 48, 49, 50, 51, 52, 53, 54, 55, 56, 57, 58, 59, 60, 61, 62, 63, 64, 65, 66, 67, 68, 69, 70, 71] (by decide +kernel) (by decide +kernel)) (goodIn_sub (fun _ h => List.mem_cons_of_mem _ (List.mem_append_left _ (List.mem_append_right _ h))) (by decide +kernel))) (goodIn_sub (fun _ h => List.mem_cons_of_mem _ (List.mem_append_right _ h)) (by decide +kernel))
set_option maxRecDepth 20000 in
theorem gL_lacks_X5_lacks : GoodIn wsL_lacks (wsV RL 72 RX5 yX5_lacks wsX5_lacks) := goodIn_app (goodIn_of _ (by decide +kernel)) ggL_lacks_X5_lacks
theorem dL_lacks_0 : decode cL_lacks 0 = .ok (.aload 4, 2) := by decide +kernel
theorem dL_lacks_2 : decode cL_lacks 2 = .ok (.iconst 0, 1) := by decide +kernel
theorem dL_lacks_3 : decode cL_lacks 3 = .ok (.aload_n 0, 1) := by decide +kernel
theorem dL_lacks_4 : decode cL_lacks 4 = .ok (.iload_n 1, 1) := by decide +kernel
theorem dL_lacks_5 : decode cL_lacks 5 = .ok (.iload_n 2, 1) := by decide +kernel
theorem dL_lacks_6 : decode cL_lacks 6 = .ok (.iload_n 3, 1) := by decide +kernel
theorem dL_lacks_7 : decode cL_lacks 7 = .ok (.invokevirtual 72, 3) := by decide +kernel
theorem dL_lacks_10 : decode cL_lacks 10 = .ok (.i2l, 1) := by decide +kernel
theorem dL_lacks_11 : decode cL_lacks 11 = .ok (.lastore, 1) := by decide +kernel
theorem dL_lacks_12 : decode cL_lacks 12 = .ok (.goto 11, 3) := by decide +kernel
theorem dL_lacks_15 : decode cL_lacks 15 = .ok (.astore 5, 2) := by decide +kernel
theorem dL_lacks_17 : decode cL_lacks 17 = .ok (.iconst 1, 1) := by decide +kernel
theorem dL_lacks_18 : decode cL_lacks 18 = .ok (.ireturn, 1) := by decide +kernel
theorem dL_lacks_19 : decode cL_lacks 19 = .ok (.astore 5, 2) := by decide +kernel
theorem dL_lacks_21 : decode cL_lacks 21 = .ok (.iconst 2, 1) := by decide +kernel
theorem dL_lacks_22 : decode cL_lacks 22 = .ok (.ireturn, 1) := by decide +kernel
theorem dL_lacks_23 : decode cL_lacks 23 = .ok (.iconst 0, 1) := by decide +kernel
theorem dL_lacks_24 : decode cL_lacks 24 = .ok (.ireturn, 1) := by decide +kernel
set_option maxRecDepth 20000 in
theorem ggL_eat_X5_eat : GoodIn wsL_eat wsX5_eat := goodIn_ca (goodIn_ca (goodIn_r _ [7, 8, 9, 10, 11, 12, 13, 14, 6, 15, 16, 17, 18, 19, 20, 21, 22, 23, 24, 25, 26, 27, 28, 29, 30, 31, 32, 33, 34, 35, 36, 37, 38, 39, 40, 41, 42, 43, 44, 45, 46, 47, 48, 49, 50, 51, 52, 53, 54, 55, 56, 57, 58, 59, 60, 61, 62, 63, 64, 65, 66, 67, 68, 69, 70, 71, 72, 73, 74, 75, 76] (by decide +kernel) (by decide +kernel)) (goodIn_sub (fun _ h => List.mem_cons_of_mem _ (List.mem_append_left _ (List.mem_append_right _ h))) (by decide +kernel))) (goodIn_sub (fun _ h => List.mem_cons_of_mem _ (List.mem_append_right _ h)) (by decide +kernel))
set_option maxRecDepth 20000 in
theorem gL_eat_X5_eat : GoodIn wsL_eat (wsV RL 75 RX5 yX5_eat wsX5_eat) := goodIn_app (goodIn_of _ (by decide +kernel)) ggL_eat_X5_eat
theorem dL_eat_0 : decode cL_eat 0 = .ok (.aload_n 2, 1) := by decide +kernel
theorem dL_eat_1 : decode cL_eat 1 = .ok (.iconst 0, 1) := by decide +kernel
theorem dL_eat_2 : decode cL_eat 2 = .ok (.aload_n 0, 1) := by decide +kernel
theorem dL_eat_3 : decode cL_eat 3 = .ok (.iload_n 1, 1) := by decide +kernel
theorem dL_eat_4 : decode cL_eat 4 = .ok (.invokevirtual 75, 3) := by decide +kernel
theorem dL_eat_7 : decode cL_eat 7 = .ok (.i2l, 1) := by decide +kernel
theorem dL_eat_8 : decode cL_eat 8 = .ok (.lastore, 1) := by decide +kernel
theorem dL_eat_9 : decode cL_eat 9 = .ok (.goto 9, 3) := by decide +kernel
theorem dL_eat_12 : decode cL_eat 12 = .ok (.astore_n 3, 1) := by decide +kernel
theorem dL_eat_13 : decode cL_eat 13 = .ok (.iconst 1, 1) := by decide +kernel
theorem dL_eat_14 : decode cL_eat 14 = .ok (.ireturn, 1) := by decide +kernel
theorem dL_eat_15 : decode cL_eat 15 = .ok (.astore_n 3, 1) := by decide +kernel
theorem dL_eat_16 : decode cL_eat 16 = .ok (.iconst 2, 1) := by decide +kernel
theorem dL_eat_17 : decode cL_eat 17 = .ok (.ireturn, 1) := by decide +kernel
theorem dL_eat_18 : decode cL_eat 18 = .ok (.iconst 0, 1) := by decide +kernel
theorem dL_eat_19 : decode cL_eat 19 = .ok (.ireturn, 1) := by decide +kernel
set_option maxRecDepth 20000 in
theorem ggL_table_X5_table : GoodIn wsL_table wsX5_table := goodIn_ca (goodIn_r _ [6, 7, 8, 9, 10, 11, 5, 12, 13, 14, 15, 16, 17, 18, 19, 20, 21, 22, 23, 24, 25, 26, 27, 28, 29, 30, 31, 32, 33, 34, 35, 36, 37, 38, 39, 40, 41, 42, 43, 44, 45, 46, 47, 48, 49, 50, 51, 52, 53, 54, 55, 56, 57, 58, 59, 60, 61, 62, 63, 64, 65, 66, 67, 68, 69, 70, 71, 72, 73, 74, 75, 76, 77, 78, 79, 80, 81, 82] (by decide +kernel) (by decide +kernel)) (goodIn_sub (fun _ h => List.mem_cons_of_mem _ (List.mem_append_right _ h)) (by decide +kernel))
set_option maxRecDepth 20000 in
theorem gL_table_X5_table : GoodIn wsL_table (wsV RL 78 RX5 yX5_table wsX5_table) := goodIn_app (goodIn_of _ (by decide +kernel)) ggL_table_X5_table
theorem dL_table_0 : decode cL_table 0 = .ok (.aload_n 2, 1) := by decide +kernel
theorem dL_table_1 : decode cL_table 1 = .ok (.iconst 0, 1) := by decide +kernel
theorem dL_table_2 : decode cL_table 2 = .ok (.aload_n 0, 1) := by decide +kernel
theorem dL_table_3 : decode cL_table 3 = .ok (.iload_n 1, 1) := by decide +kernel
theorem dL_table_4 : decode cL_table 4 = .ok (.invokevirtual 78, 3) := by decide +kernel
theorem dL_table_7 : decode cL_table 7 = .ok (.i2l, 1) := by decide +kernel
theorem dL_table_8 : decode cL_table 8 = .ok (.lastore, 1) := by decide +kernel
theorem dL_table_9 : decode cL_table 9 = .ok (.goto 6, 3) := by decide +kernel
theorem dL_table_12 : decode cL_table 12 = .ok (.astore_n 3, 1) := by decide +kernel
theorem dL_table_13 : decode cL_table 13 = .ok (.iconst 1, 1) := by decide +kernel
theorem dL_table_14 : decode cL_table 14 = .ok (.ireturn, 1) := by decide +kernel
theorem dL_table_15 : decode cL_table 15 = .ok (.iconst 0, 1) := by decide +kernel
theorem dL_table_16 : decode cL_table 16 = .ok (.ireturn, 1) := by decide +kernel
set_option maxRecDepth 20000 in
theorem ggL_addBadge_X5_addBadge : GoodIn wsL_addBadge wsX5_addBadge := goodIn_ca (goodIn_ca (goodIn_r _ [7, 8, 9, 10, 11, 12, 13, 14, 6, 15, 16, 17, 18, 19, 20, 21, 22, 23, 24, 25, 26] (by decide +kernel) (by decide +kernel)) (goodIn_sub (fun _ h => List.mem_cons_of_mem _ (List.mem_append_left _ (List.mem_append_right _ h))) (by decide +kernel))) (goodIn_sub (fun _ h => List.mem_cons_of_mem _ (List.mem_append_right _ h)) (by decide +kernel))
set_option maxRecDepth 20000 in
theorem gL_addBadge_X5_addBadge : GoodIn wsL_addBadge (wsV RL 81 RX5 yX5_addBadge wsX5_addBadge) := goodIn_app (goodIn_of _ (by decide +kernel)) ggL_addBadge_X5_addBadge
theorem dL_addBadge_0 : decode cL_addBadge 0 = .ok (.aload_n 2, 1) := by decide +kernel
theorem dL_addBadge_1 : decode cL_addBadge 1 = .ok (.iconst 0, 1) := by decide +kernel
theorem dL_addBadge_2 : decode cL_addBadge 2 = .ok (.aload_n 0, 1) := by decide +kernel
theorem dL_addBadge_3 : decode cL_addBadge 3 = .ok (.iload_n 1, 1) := by decide +kernel
theorem dL_addBadge_4 : decode cL_addBadge 4 = .ok (.invokevirtual 81, 3) := by decide +kernel
theorem dL_addBadge_7 : decode cL_addBadge 7 = .ok (.i2l, 1) := by decide +kernel
theorem dL_addBadge_8 : decode cL_addBadge 8 = .ok (.lastore, 1) := by decide +kernel
theorem dL_addBadge_9 : decode cL_addBadge 9 = .ok (.goto 9, 3) := by decide +kernel
theorem dL_addBadge_12 : decode cL_addBadge 12 = .ok (.astore_n 3, 1) := by decide +kernel
theorem dL_addBadge_13 : decode cL_addBadge 13 = .ok (.iconst 1, 1) := by decide +kernel
theorem dL_addBadge_14 : decode cL_addBadge 14 = .ok (.ireturn, 1) := by decide +kernel
theorem dL_addBadge_15 : decode cL_addBadge 15 = .ok (.astore_n 3, 1) := by decide +kernel
theorem dL_addBadge_16 : decode cL_addBadge 16 = .ok (.iconst 2, 1) := by decide +kernel
theorem dL_addBadge_17 : decode cL_addBadge 17 = .ok (.ireturn, 1) := by decide +kernel
theorem dL_addBadge_18 : decode cL_addBadge 18 = .ok (.iconst 0, 1) := by decide +kernel
theorem dL_addBadge_19 : decode cL_addBadge 19 = .ok (.ireturn, 1) := by decide +kernel
set_option maxRecDepth 20000 in
theorem ggL_want_X5_want : GoodIn wsL_want wsX5_want := goodIn_ca (goodIn_ca (goodIn_r _ [7, 8, 9, 10, 11, 12, 6, 13, 14, 15, 16, 17, 18, 19, 20, 21, 22, 23, 24, 25, 26, 27, 28, 29] (by decide +kernel) (by decide +kernel)) (goodIn_sub (fun _ h => List.mem_cons_of_mem _ (List.mem_append_left _ (List.mem_append_right _ h))) (by decide +kernel))) (goodIn_sub (fun _ h => List.mem_cons_of_mem _ (List.mem_append_right _ h)) (by decide +kernel))
set_option maxRecDepth 20000 in
theorem gL_want_X5_want : GoodIn wsL_want (wsV RL 84 RX5 yX5_want wsX5_want) := goodIn_app (goodIn_of _ (by decide +kernel)) ggL_want_X5_want
theorem dL_want_0 : decode cL_want 0 = .ok (.aload 4, 2) := by decide +kernel
theorem dL_want_2 : decode cL_want 2 = .ok (.iconst 0, 1) := by decide +kernel
theorem dL_want_3 : decode cL_want 3 = .ok (.aload_n 0, 1) := by decide +kernel
theorem dL_want_4 : decode cL_want 4 = .ok (.iload_n 1, 1) := by decide +kernel
theorem dL_want_5 : decode cL_want 5 = .ok (.iload_n 2, 1) := by decide +kernel
theorem dL_want_6 : decode cL_want 6 = .ok (.iload_n 3, 1) := by decide +kernel
theorem dL_want_7 : decode cL_want 7 = .ok (.invokevirtual 84, 3) := by decide +kernel
theorem dL_want_10 : decode cL_want 10 = .ok (.i2l, 1) := by decide +kernel
theorem dL_want_11 : decode cL_want 11 = .ok (.lastore, 1) := by decide +kernel
theorem dL_want_12 : decode cL_want 12 = .ok (.goto 11, 3) := by decide +kernel
theorem dL_want_15 : decode cL_want 15 = .ok (.astore 5, 2) := by decide +kernel
theorem dL_want_17 : decode cL_want 17 = .ok (.iconst 1, 1) := by decide +kernel
theorem dL_want_18 : decode cL_want 18 = .ok (.ireturn, 1) := by decide +kernel
theorem dL_want_19 : decode cL_want 19 = .ok (.astore 5, 2) := by decide +kernel
theorem dL_want_21 : decode cL_want 21 = .ok (.iconst 2, 1) := by decide +kernel
theorem dL_want_22 : decode cL_want 22 = .ok (.ireturn, 1) := by decide +kernel
theorem dL_want_23 : decode cL_want 23 = .ok (.iconst 0, 1) := by decide +kernel
theorem dL_want_24 : decode cL_want 24 = .ok (.ireturn, 1) := by decide +kernel
set_option maxRecDepth 20000 in
theorem ggL_practise_X5_practise : GoodIn wsL_practise wsX5_practise := goodIn_ca (goodIn_ca (goodIn_r _ [7, 8, 9, 10, 11, 6, 12, 13, 14, 15, 16, 17, 18, 19, 20, 21, 22, 23, 24, 25, 26, 27, 28, 29, 30, 31, 32, 33, 34, 35, 36, 37, 38, 39, 40, 41] (by decide +kernel) (by decide +kernel)) (goodIn_sub (fun _ h => List.mem_cons_of_mem _ (List.mem_append_left _ (List.mem_append_right _ h))) (by decide +kernel))) (goodIn_sub (fun _ h => List.mem_cons_of_mem _ (List.mem_append_right _ h)) (by decide +kernel))
set_option maxRecDepth 20000 in
theorem gL_practise_X5_practise : GoodIn wsL_practise (wsV RL 87 RX5 yX5_practise wsX5_practise) := goodIn_app (goodIn_of _ (by decide +kernel)) ggL_practise_X5_practise
theorem dL_practise_0 : decode cL_practise 0 = .ok (.aload 4, 2) := by decide +kernel
theorem dL_practise_2 : decode cL_practise 2 = .ok (.iconst 0, 1) := by decide +kernel
theorem dL_practise_3 : decode cL_practise 3 = .ok (.aload_n 0, 1) := by decide +kernel
theorem dL_practise_4 : decode cL_practise 4 = .ok (.iload_n 1, 1) := by decide +kernel
theorem dL_practise_5 : decode cL_practise 5 = .ok (.iload_n 2, 1) := by decide +kernel
theorem dL_practise_6 : decode cL_practise 6 = .ok (.iload_n 3, 1) := by decide +kernel
theorem dL_practise_7 : decode cL_practise 7 = .ok (.invokevirtual 87, 3) := by decide +kernel
theorem dL_practise_10 : decode cL_practise 10 = .ok (.i2l, 1) := by decide +kernel
theorem dL_practise_11 : decode cL_practise 11 = .ok (.lastore, 1) := by decide +kernel
theorem dL_practise_12 : decode cL_practise 12 = .ok (.goto 11, 3) := by decide +kernel
theorem dL_practise_15 : decode cL_practise 15 = .ok (.astore 5, 2) := by decide +kernel
theorem dL_practise_17 : decode cL_practise 17 = .ok (.iconst 1, 1) := by decide +kernel
theorem dL_practise_18 : decode cL_practise 18 = .ok (.ireturn, 1) := by decide +kernel
theorem dL_practise_19 : decode cL_practise 19 = .ok (.astore 5, 2) := by decide +kernel
theorem dL_practise_21 : decode cL_practise 21 = .ok (.iconst 2, 1) := by decide +kernel
theorem dL_practise_22 : decode cL_practise 22 = .ok (.ireturn, 1) := by decide +kernel
theorem dL_practise_23 : decode cL_practise 23 = .ok (.iconst 0, 1) := by decide +kernel
theorem dL_practise_24 : decode cL_practise 24 = .ok (.ireturn, 1) := by decide +kernel
set_option maxRecDepth 20000 in
theorem ggL_away_X5_away : GoodIn wsL_away wsX5_away := goodIn_ca (goodIn_r _ [6, 7, 8, 9, 10, 11, 12, 5, 13, 14, 15, 16, 17, 18, 19, 20, 21, 22, 23, 24, 25, 26, 27, 28, 29, 30, 31, 32, 33, 34, 35, 36, 37, 38, 39, 40, 41, 42, 43, 44, 45, 46, 47, 48, 49, 50, 51, 52, 53, 54, 55] (by decide +kernel) (by decide +kernel)) (goodIn_sub (fun _ h => List.mem_cons_of_mem _ (List.mem_append_right _ h)) (by decide +kernel))
set_option maxRecDepth 20000 in
theorem gL_away_X5_away : GoodIn wsL_away (wsV RL 90 RX5 yX5_away wsX5_away) := goodIn_app (goodIn_of _ (by decide +kernel)) ggL_away_X5_away
theorem dL_away_0 : decode cL_away 0 = .ok (.aload_n 3, 1) := by decide +kernel
theorem dL_away_1 : decode cL_away 1 = .ok (.iconst 0, 1) := by decide +kernel
theorem dL_away_2 : decode cL_away 2 = .ok (.aload_n 0, 1) := by decide +kernel
theorem dL_away_3 : decode cL_away 3 = .ok (.iload_n 1, 1) := by decide +kernel
theorem dL_away_4 : decode cL_away 4 = .ok (.iload_n 2, 1) := by decide +kernel
theorem dL_away_5 : decode cL_away 5 = .ok (.invokevirtual 90, 3) := by decide +kernel
theorem dL_away_8 : decode cL_away 8 = .ok (.i2l, 1) := by decide +kernel
theorem dL_away_9 : decode cL_away 9 = .ok (.lastore, 1) := by decide +kernel
theorem dL_away_10 : decode cL_away 10 = .ok (.goto 7, 3) := by decide +kernel
theorem dL_away_13 : decode cL_away 13 = .ok (.astore 4, 2) := by decide +kernel
theorem dL_away_15 : decode cL_away 15 = .ok (.iconst 1, 1) := by decide +kernel
theorem dL_away_16 : decode cL_away 16 = .ok (.ireturn, 1) := by decide +kernel
theorem dL_away_17 : decode cL_away 17 = .ok (.iconst 0, 1) := by decide +kernel
theorem dL_away_18 : decode cL_away 18 = .ok (.ireturn, 1) := by decide +kernel
set_option maxRecDepth 20000 in
theorem ggL_earn_X5_earn : GoodIn wsL_earn wsX5_earn := goodIn_ca (goodIn_ca (goodIn_r _ [7, 8, 9, 10, 11, 12, 13, 14, 15, 16, 6, 17, 18, 19, 20, 21, 22, 23, 24, 25, 26, 27, 28, 29, 30, 31, 32, 33, 34, 35, 36, 37, 38, 39, 40, 41, 42, 43, 44, 45, 46, 47, 48, 49, 50, 51, 52, 53, 54, 55, 56, 57, 58, 59, 60, 61, 62, 63, 64, 65, 66] (by decide +kernel) (by decide +kernel)) (goodIn_sub (fun _ h => List.mem_cons_of_mem _ (List.mem_append_left _ (List.mem_append_right _ h))) (by decide +kernel))) (goodIn_sub (fun _ h => List.mem_cons_of_mem _ (List.mem_append_right _ h)) (by decide +kernel))
set_option maxRecDepth 20000 in
theorem gL_earn_X5_earn : GoodIn wsL_earn (wsV RL 93 RX5 yX5_earn wsX5_earn) := goodIn_app (goodIn_of _ (by decide +kernel)) ggL_earn_X5_earn
theorem dL_earn_0 : decode cL_earn 0 = .ok (.aload_n 3, 1) := by decide +kernel
theorem dL_earn_1 : decode cL_earn 1 = .ok (.iconst 0, 1) := by decide +kernel
theorem dL_earn_2 : decode cL_earn 2 = .ok (.aload_n 0, 1) := by decide +kernel
theorem dL_earn_3 : decode cL_earn 3 = .ok (.iload_n 1, 1) := by decide +kernel
theorem dL_earn_4 : decode cL_earn 4 = .ok (.iload_n 2, 1) := by decide +kernel
theorem dL_earn_5 : decode cL_earn 5 = .ok (.invokevirtual 93, 3) := by decide +kernel
theorem dL_earn_8 : decode cL_earn 8 = .ok (.i2l, 1) := by decide +kernel
theorem dL_earn_9 : decode cL_earn 9 = .ok (.lastore, 1) := by decide +kernel
theorem dL_earn_10 : decode cL_earn 10 = .ok (.goto 11, 3) := by decide +kernel
theorem dL_earn_13 : decode cL_earn 13 = .ok (.astore 4, 2) := by decide +kernel
theorem dL_earn_15 : decode cL_earn 15 = .ok (.iconst 1, 1) := by decide +kernel
theorem dL_earn_16 : decode cL_earn 16 = .ok (.ireturn, 1) := by decide +kernel
theorem dL_earn_17 : decode cL_earn 17 = .ok (.astore 4, 2) := by decide +kernel
theorem dL_earn_19 : decode cL_earn 19 = .ok (.iconst 2, 1) := by decide +kernel
theorem dL_earn_20 : decode cL_earn 20 = .ok (.ireturn, 1) := by decide +kernel
theorem dL_earn_21 : decode cL_earn 21 = .ok (.iconst 0, 1) := by decide +kernel
theorem dL_earn_22 : decode cL_earn 22 = .ok (.ireturn, 1) := by decide +kernel
set_option maxRecDepth 20000 in
theorem ggL_hike_X5_hike : GoodIn wsL_hike wsX5_hike := goodIn_ca (goodIn_ca (goodIn_r _ [7, 8, 9, 10, 11, 12, 13, 14, 15, 16, 17, 18, 19, 20, 21, 6, 22, 23, 24, 25, 26, 27, 28, 29, 30, 31, 32, 33, 34, 35, 36, 37, 38, 39, 40, 41, 42, 43, 44, 45, 46, 47, 48, 49, 50, 51, 52, 53, 54, 55, 56, 57, 58] (by decide +kernel) (by decide +kernel)) (goodIn_sub (fun _ h => List.mem_cons_of_mem _ (List.mem_append_left _ (List.mem_append_right _ h))) (by decide +kernel))) (goodIn_sub (fun _ h => List.mem_cons_of_mem _ (List.mem_append_right _ h)) (by decide +kernel))
set_option maxRecDepth 20000 in
theorem gL_hike_X5_hike : GoodIn wsL_hike (wsV RL 96 RX5 yX5_hike wsX5_hike) := goodIn_app (goodIn_of _ (by decide +kernel)) ggL_hike_X5_hike
theorem dL_hike_0 : decode cL_hike 0 = .ok (.aload 5, 2) := by decide +kernel
theorem dL_hike_2 : decode cL_hike 2 = .ok (.iconst 0, 1) := by decide +kernel
theorem dL_hike_3 : decode cL_hike 3 = .ok (.aload_n 0, 1) := by decide +kernel
theorem dL_hike_4 : decode cL_hike 4 = .ok (.lload_n 1, 1) := by decide +kernel
theorem dL_hike_5 : decode cL_hike 5 = .ok (.iload_n 3, 1) := by decide +kernel
theorem dL_hike_6 : decode cL_hike 6 = .ok (.iload 4, 2) := by decide +kernel
theorem dL_hike_8 : decode cL_hike 8 = .ok (.invokevirtual 96, 3) := by decide +kernel
theorem dL_hike_11 : decode cL_hike 11 = .ok (.i2l, 1) := by decide +kernel
theorem dL_hike_12 : decode cL_hike 12 = .ok (.lastore, 1) := by decide +kernel
theorem dL_hike_13 : decode cL_hike 13 = .ok (.goto 11, 3) := by decide +kernel
theorem dL_hike_16 : decode cL_hike 16 = .ok (.astore 6, 2) := by decide +kernel
theorem dL_hike_18 : decode cL_hike 18 = .ok (.iconst 1, 1) := by decide +kernel
theorem dL_hike_19 : decode cL_hike 19 = .ok (.ireturn, 1) := by decide +kernel
theorem dL_hike_20 : decode cL_hike 20 = .ok (.astore 6, 2) := by decide +kernel
theorem dL_hike_22 : decode cL_hike 22 = .ok (.iconst 2, 1) := by decide +kernel
theorem dL_hike_23 : decode cL_hike 23 = .ok (.ireturn, 1) := by decide +kernel
theorem dL_hike_24 : decode cL_hike 24 = .ok (.iconst 0, 1) := by decide +kernel
theorem dL_hike_25 : decode cL_hike 25 = .ok (.ireturn, 1) := by decide +kernel
set_option maxRecDepth 20000 in
theorem ggL_end_X5_end : GoodIn wsL_end wsX5_end := goodIn_ca (goodIn_r _ [6, 7, 8, 9, 10, 11, 12, 13, 14, 15, 16, 17, 18, 19, 20, 21, 22, 23, 24, 25, 26, 27, 28, 29] (by decide +kernel) (by decide +kernel)) (goodIn_sub (fun _ h => List.mem_cons_of_mem _ (List.mem_append_right _ h)) (by decide +kernel))
set_option maxRecDepth 20000 in
theorem gL_end_X5_end : GoodIn wsL_end (wsV RL 100 RX5 yX5_end wsX5_end) := goodIn_app (goodIn_of _ (by decide +kernel)) ggL_end_X5_end
theorem dL_end_0 : decode cL_end 0 = .ok (.aload_n 1, 1) := by decide +kernel
theorem dL_end_1 : decode cL_end 1 = .ok (.iconst 0, 1) := by decide +kernel
theorem dL_end_2 : decode cL_end 2 = .ok (.aload_n 0, 1) := by decide +kernel
theorem dL_end_3 : decode cL_end 3 = .ok (.invokevirtual 100, 3) := by decide +kernel
theorem dL_end_6 : decode cL_end 6 = .ok (.i2l, 1) := by decide +kernel
theorem dL_end_7 : decode cL_end 7 = .ok (.lastore, 1) := by decide +kernel
theorem dL_end_8 : decode cL_end 8 = .ok (.goto 6, 3) := by decide +kernel
theorem dL_end_11 : decode cL_end 11 = .ok (.astore_n 2, 1) := by decide +kernel
theorem dL_end_12 : decode cL_end 12 = .ok (.iconst 1, 1) := by decide +kernel
theorem dL_end_13 : decode cL_end 13 = .ok (.ireturn, 1) := by decide +kernel
theorem dL_end_14 : decode cL_end 14 = .ok (.iconst 0, 1) := by decide +kernel
theorem dL_end_15 : decode cL_end 15 = .ok (.ireturn, 1) := by decide +kernel
set_option maxRecDepth 20000 in
theorem ggL_law_X5_init : GoodIn wsL_law wsX5_init := goodIn_r _ [10, 11, 12, 13, 14, 15, 16, 17, 18, 19, 20, 21, 22, 23, 24, 25, 26, 27, 28, 29, 30, 31, 32, 33, 34, 35, 36, 37, 38, 39, 40, 41, 42, 43, 44, 45, 46, 47, 48, 6, 49, 50, 51, 52, 53, 54, 55, 56, 57, 58, 59, 60, 61, 62, 63, 64, 65, 66, 67, 68, 69, 837, 838, 839, 840, 841, 842, 843, 844, 808, 809, 810, 811, 812, 813, 845, 846, 847, 848, 849, 850, 851, 852, 853, 854, 855, 856, 857, 858] (by decide +kernel) (by decide +kernel)
set_option maxRecDepth 20000 in
theorem gL_law_X5_init : GoodIn wsL_law (wsX5_init) := ggL_law_X5_init
set_option maxRecDepth 20000 in
theorem ggL_law_X6_init : GoodIn wsL_law wsX6_init := goodIn_r _ [72, 73, 12, 13, 38, 74, 75, 76, 77, 78, 79, 80, 81, 82, 83, 84, 85, 86, 87, 88, 814, 815, 816, 817, 818, 819, 820, 821, 822, 823, 824, 825, 826, 827, 828, 829, 830, 831, 832, 833, 834, 835, 836] (by decide +kernel) (by decide +kernel)
