theorem dX5_yearBy_89 : decode cX5_yearBy 89 = .ok (.goto 9, 3) := by decide +kernel
theorem dX5_yearBy_92 : decode cX5_yearBy 92 = .ok (.aload_n 0, 1) := by decide +kernel
theorem dX5_yearBy_93 : decode cX5_yearBy 93 = .ok (.getfield 34, 3) := by decide +kernel
theorem dX5_yearBy_96 : decode cX5_yearBy 96 = .ok (.iload_n 2, 1) := by decide +kernel
theorem dX5_yearBy_97 : decode cX5_yearBy 97 = .ok (.iaload, 1) := by decide +kernel
theorem dX5_yearBy_98 : decode cX5_yearBy 98 = .ok (.ireturn, 1) := by decide +kernel
set_option maxRecDepth 20000 in
theorem ggX5_year_X5_noSheet : GoodIn wsX5_year wsX5_noSheet := goodIn_r _ [12, 1, 13, 14, 11, 15] (by decide +kernel) (by decide +kernel)
set_option maxRecDepth 20000 in
theorem gX5_year_X5_noSheet : GoodIn wsX5_year (va_wsS RX5 102 yX5_noSheet wsX5_noSheet) := goodIn_app (goodIn_of _ (by decide +kernel)) ggX5_year_X5_noSheet
set_option maxRecDepth 20000 in
theorem ggX5_year_X5_refused : GoodIn wsX5_year wsX5_refused := goodIn_r _ [19, 20, 113, 114, 115, 116, 117, 118, 119, 120, 121, 122, 123, 124, 125, 126, 127, 128, 129, 130, 131, 132, 133, 134, 135, 136, 137] (by decide +kernel) (by decide +kernel)
set_option maxRecDepth 20000 in
theorem gX5_year_X5_refused : GoodIn wsX5_year (wsV RX5 106 RX5 yX5_refused wsX5_refused) := goodIn_app (goodIn_of _ (by decide +kernel)) ggX5_year_X5_refused
set_option maxRecDepth 20000 in
theorem ggX5_year_X5_in : GoodIn wsX5_year wsX5_in := goodIn_r _ [15] (by decide +kernel) (by decide +kernel)
set_option maxRecDepth 20000 in
theorem gX5_year_X5_in : GoodIn wsX5_year (va_wsS RX5 71 yX5_in wsX5_in) := goodIn_app (goodIn_of _ (by decide +kernel)) ggX5_year_X5_in
set_option maxRecDepth 20000 in
theorem ggX5_year_X5_noCost : GoodIn wsX5_year wsX5_noCost := goodIn_r _ [23, 24, 13, 14, 11, 15] (by decide +kernel) (by decide +kernel)
set_option maxRecDepth 20000 in
theorem gX5_year_X5_noCost : GoodIn wsX5_year (va_wsS RX5 145 yX5_noCost wsX5_noCost) := goodIn_app (goodIn_of _ (by decide +kernel)) ggX5_year_X5_noCost
set_option maxRecDepth 20000 in
theorem ggX5_year_X5_cellsBarred : GoodIn wsX5_year wsX5_cellsBarred := goodIn_r _ [28, 29, 30, 31, 32, 33, 11, 34, 20, 35, 36, 37, 113, 114, 115, 116, 117, 118, 119, 120, 121, 122, 123, 124, 125, 126, 127, 128, 129, 130, 131, 132, 133, 134, 135, 136, 137] (by decide +kernel) (by decide +kernel)
set_option maxRecDepth 20000 in
theorem gX5_year_X5_cellsBarred : GoodIn wsX5_year (wsV RX5 111 RX5 yX5_cellsBarred wsX5_cellsBarred) := goodIn_app (goodIn_of _ (by decide +kernel)) ggX5_year_X5_cellsBarred
set_option maxRecDepth 20000 in
theorem ggX5_year_X5_noHouse : GoodIn wsX5_year wsX5_noHouse := goodIn_r _ [41, 7, 13, 14, 11, 15, 113, 114, 115, 116, 117, 118, 119, 120, 121, 122, 123, 124, 125, 126, 127, 128, 129, 130, 131, 132, 133, 134, 135, 136, 137] (by decide +kernel) (by decide +kernel)
set_option maxRecDepth 20000 in
theorem gX5_year_X5_noHouse : GoodIn wsX5_year (wsV RX5 125 RX5 yX5_noHouse wsX5_noHouse) := goodIn_app (goodIn_of _ (by decide +kernel)) ggX5_year_X5_noHouse
set_option maxRecDepth 20000 in
theorem ggX5_year_X5_keep : GoodIn wsX5_year wsX5_keep := goodIn_r _ [45, 46, 47, 48, 49, 113, 114, 115, 116, 117, 118, 119, 120, 121, 122, 123, 124, 125, 126, 127, 128, 129, 130, 131, 132, 133, 134, 135, 136, 137] (by decide +kernel) (by decide +kernel)
set_option maxRecDepth 20000 in
theorem gX5_year_X5_keep : GoodIn wsX5_year (wsV RX5 197 RX5 yX5_keep wsX5_keep) := goodIn_app (goodIn_of _ (by decide +kernel)) ggX5_year_X5_keep
set_option maxRecDepth 20000 in
theorem ggX5_year_X5_goYear : GoodIn wsX5_year wsX5_goYear := goodIn_r _ [53, 54, 55, 56, 57, 8, 58, 59, 60, 11, 61, 47, 62, 63, 64, 65, 49, 66, 67, 68, 69, 70, 71, 72, 73, 74, 75, 76, 77, 78, 79, 80, 81, 82, 83, 84, 85, 86, 87, 88, 89, 90, 91, 92, 7, 93, 94, 95, 96, 97, 98, 99, 100, 113, 114, 115, 116, 117, 118, 119, 120, 121, 122, 123, 124, 125, 126, 127, 128, 129, 130, 131, 132, 133, 134, 135, 136, 137] (by decide +kernel) (by decide +kernel)
set_option maxRecDepth 20000 in
theorem gX5_year_X5_goYear : GoodIn wsX5_year (wsV RX5 200 RX5 yX5_goYear wsX5_goYear) := goodIn_app (goodIn_of _ (by decide +kernel)) ggX5_year_X5_goYear
set_option maxRecDepth 20000 in
theorem ggX5_year_X5_yearBy : GoodIn wsX5_year wsX5_yearBy := goodIn_r _ [104, 54, 55, 56, 47, 57, 105, 106, 107, 11, 108, 7, 93, 94, 95, 96, 49, 74, 75, 76, 77, 78, 38, 39, 40, 41, 13, 14, 15, 113, 114, 115, 116, 117, 118, 119, 120, 121, 122, 123, 124, 125, 126, 127, 128, 129, 130, 131, 132, 133, 134, 135, 136, 137] (by decide +kernel) (by decide +kernel)
set_option maxRecDepth 20000 in
theorem gX5_year_X5_yearBy : GoodIn wsX5_year (wsV RX5 204 RX5 yX5_yearBy wsX5_yearBy) := goodIn_app (goodIn_of _ (by decide +kernel)) ggX5_year_X5_yearBy
set_option maxRecDepth 20000 in
theorem ggX5_year_X5_putBack : GoodIn wsX5_year wsX5_putBack := goodIn_r _ [112, 47, 46, 49, 48, 113, 114, 115, 116, 117, 118, 119, 120, 121, 122, 123, 124, 125, 126, 127, 128, 129, 130, 131, 132, 133, 134, 135, 136, 137] (by decide +kernel) (by decide +kernel)
set_option maxRecDepth 20000 in
theorem gX5_year_X5_putBack : GoodIn wsX5_year (wsV RX5 207 RX5 yX5_putBack wsX5_putBack) := goodIn_app (goodIn_of _ (by decide +kernel)) ggX5_year_X5_putBack
theorem dX5_year_0 : decode cX5_year 0 = .ok (.iload_n 2, 1) := by decide +kernel
theorem dX5_year_1 : decode cX5_year 1 = .ok (.invokestatic 102, 3) := by decide +kernel
theorem dX5_year_4 : decode cX5_year 4 = .ok (.ifCond .eq 9, 3) := by decide +kernel
theorem dX5_year_7 : decode cX5_year 7 = .ok (.aload_n 0, 1) := by decide +kernel
theorem dX5_year_8 : decode cX5_year 8 = .ok (.iconst (-1), 1) := by decide +kernel
theorem dX5_year_9 : decode cX5_year 9 = .ok (.invokevirtual 106, 3) := by decide +kernel
theorem dX5_year_12 : decode cX5_year 12 = .ok (.ireturn, 1) := by decide +kernel
theorem dX5_year_13 : decode cX5_year 13 = .ok (.iload 6, 2) := by decide +kernel
theorem dX5_year_15 : decode cX5_year 15 = .ok (.i2l, 1) := by decide +kernel
theorem dX5_year_16 : decode cX5_year 16 = .ok (.lconst 0, 1) := by decide +kernel
theorem dX5_year_17 : decode cX5_year 17 = .ok (.ldc2_w 187, 3) := by decide +kernel
theorem dX5_year_20 : decode cX5_year 20 = .ok (.invokestatic 71, 3) := by decide +kernel
theorem dX5_year_23 : decode cX5_year 23 = .ok (.ifCond .ne 33, 3) := by decide +kernel
theorem dX5_year_26 : decode cX5_year 26 = .ok (.iload 6, 2) := by decide +kernel
theorem dX5_year_28 : decode cX5_year 28 = .ok (.i2l, 1) := by decide +kernel
theorem dX5_year_29 : decode cX5_year 29 = .ok (.ldc2_w 189, 3) := by decide +kernel
theorem dX5_year_32 : decode cX5_year 32 = .ok (.ldc2_w 191, 3) := by decide +kernel
theorem dX5_year_35 : decode cX5_year 35 = .ok (.invokestatic 71, 3) := by decide +kernel
theorem dX5_year_38 : decode cX5_year 38 = .ok (.ifCond .ne 18, 3) := by decide +kernel
theorem dX5_year_41 : decode cX5_year 41 = .ok (.iload 6, 2) := by decide +kernel
theorem dX5_year_43 : decode cX5_year 43 = .ok (.i2l, 1) := by decide +kernel
theorem dX5_year_44 : decode cX5_year 44 = .ok (.ldc2_w 193, 3) := by decide +kernel
theorem dX5_year_47 : decode cX5_year 47 = .ok (.ldc2_w 195, 3) := by decide +kernel
theorem dX5_year_50 : decode cX5_year 50 = .ok (.invokestatic 71, 3) := by decide +kernel
theorem dX5_year_53 : decode cX5_year 53 = .ok (.ifCond .eq 7, 3) := by decide +kernel
theorem dX5_year_56 : decode cX5_year 56 = .ok (.iconst 1, 1) := by decide +kernel
theorem dX5_year_57 : decode cX5_year 57 = .ok (.goto 4, 3) := by decide +kernel
theorem dX5_year_60 : decode cX5_year 60 = .ok (.iconst 0, 1) := by decide +kernel
theorem dX5_year_61 : decode cX5_year 61 = .ok (.istore 7, 2) := by decide +kernel
theorem dX5_year_63 : decode cX5_year 63 = .ok (.iload_n 1, 1) := by decide +kernel
theorem dX5_year_64 : decode cX5_year 64 = .ok (.invokestatic 145, 3) := by decide +kernel
theorem dX5_year_67 : decode cX5_year 67 = .ok (.ifCond .ne 33, 3) := by decide +kernel
theorem dX5_year_70 : decode cX5_year 70 = .ok (.iload_n 3, 1) := by decide +kernel
theorem dX5_year_71 : decode cX5_year 71 = .ok (.i2l, 1) := by decide +kernel
theorem dX5_year_72 : decode cX5_year 72 = .ok (.lconst 0, 1) := by decide +kernel
theorem dX5_year_73 : decode cX5_year 73 = .ok (.ldc2_w 109, 3) := by decide +kernel
theorem dX5_year_76 : decode cX5_year 76 = .ok (.invokestatic 71, 3) := by decide +kernel
theorem dX5_year_79 : decode cX5_year 79 = .ok (.ifCond .eq 21, 3) := by decide +kernel
theorem dX5_year_82 : decode cX5_year 82 = .ok (.iload 5, 2) := by decide +kernel
theorem dX5_year_84 : decode cX5_year 84 = .ok (.i2l, 1) := by decide +kernel
theorem dX5_year_85 : decode cX5_year 85 = .ok (.lconst 0, 1) := by decide +kernel
theorem dX5_year_86 : decode cX5_year 86 = .ok (.ldc2_w 193, 3) := by decide +kernel
theorem dX5_year_89 : decode cX5_year 89 = .ok (.invokestatic 71, 3) := by decide +kernel
theorem dX5_year_92 : decode cX5_year 92 = .ok (.ifCond .eq 8, 3) := by decide +kernel
theorem dX5_year_95 : decode cX5_year 95 = .ok (.iload 7, 2) := by decide +kernel
theorem dX5_year_97 : decode cX5_year 97 = .ok (.ifCond .ne 10, 3) := by decide +kernel
theorem dX5_year_100 : decode cX5_year 100 = .ok (.aload_n 0, 1) := by decide +kernel
theorem dX5_year_101 : decode cX5_year 101 = .ok (.bipush (-2), 2) := by decide +kernel
theorem dX5_year_103 : decode cX5_year 103 = .ok (.invokevirtual 106, 3) := by decide +kernel
theorem dX5_year_106 : decode cX5_year 106 = .ok (.ireturn, 1) := by decide +kernel
theorem dX5_year_107 : decode cX5_year 107 = .ok (.aload_n 0, 1) := by decide +kernel
theorem dX5_year_108 : decode cX5_year 108 = .ok (.getfield 68, 3) := by decide +kernel
theorem dX5_year_111 : decode cX5_year 111 = .ok (.ifCond .ne 10, 3) := by decide +kernel
theorem dX5_year_114 : decode cX5_year 114 = .ok (.aload_n 0, 1) := by decide +kernel
theorem dX5_year_115 : decode cX5_year 115 = .ok (.bipush (-3), 2) := by decide +kernel
theorem dX5_year_117 : decode cX5_year 117 = .ok (.invokevirtual 106, 3) := by decide +kernel
theorem dX5_year_120 : decode cX5_year 120 = .ok (.ireturn, 1) := by decide +kernel
theorem dX5_year_121 : decode cX5_year 121 = .ok (.aload_n 0, 1) := by decide +kernel
theorem dX5_year_122 : decode cX5_year 122 = .ok (.iload_n 2, 1) := by decide +kernel
theorem dX5_year_123 : decode cX5_year 123 = .ok (.iload_n 3, 1) := by decide +kernel
theorem dX5_year_124 : decode cX5_year 124 = .ok (.iload 4, 2) := by decide +kernel
theorem dX5_year_126 : decode cX5_year 126 = .ok (.ldc2_w 109, 3) := by decide +kernel
theorem dX5_year_129 : decode cX5_year 129 = .ok (.iload 5, 2) := by decide +kernel
theorem dX5_year_131 : decode cX5_year 131 = .ok (.i2l, 1) := by decide +kernel
theorem dX5_year_132 : decode cX5_year 132 = .ok (.lmul, 1) := by decide +kernel
theorem dX5_year_133 : decode cX5_year 133 = .ok (.invokevirtual 111, 3) := by decide +kernel
theorem dX5_year_136 : decode cX5_year 136 = .ok (.istore 8, 2) := by decide +kernel
theorem dX5_year_138 : decode cX5_year 138 = .ok (.iload 8, 2) := by decide +kernel
theorem dX5_year_140 : decode cX5_year 140 = .ok (.ifCond .ge 6, 3) := by decide +kernel
theorem dX5_year_143 : decode cX5_year 143 = .ok (.iload 8, 2) := by decide +kernel
theorem dX5_year_145 : decode cX5_year 145 = .ok (.ireturn, 1) := by decide +kernel
theorem dX5_year_146 : decode cX5_year 146 = .ok (.iconst 0, 1) := by decide +kernel
theorem dX5_year_147 : decode cX5_year 147 = .ok (.istore 9, 2) := by decide +kernel
theorem dX5_year_149 : decode cX5_year 149 = .ok (.iload 9, 2) := by decide +kernel
theorem dX5_year_151 : decode cX5_year 151 = .ok (.iconst 2, 1) := by decide +kernel
theorem dX5_year_152 : decode cX5_year 152 = .ok (.iload 5, 2) := by decide +kernel
theorem dX5_year_154 : decode cX5_year 154 = .ok (.imul, 1) := by decide +kernel
theorem dX5_year_155 : decode cX5_year 155 = .ok (.if_icmp .ge 37, 3) := by decide +kernel
theorem dX5_year_158 : decode cX5_year 158 = .ok (.aload_n 0, 1) := by decide +kernel
theorem dX5_year_159 : decode cX5_year 159 = .ok (.aload_n 0, 1) := by decide +kernel
theorem dX5_year_160 : decode cX5_year 160 = .ok (.getfield 52, 3) := by decide +kernel
theorem dX5_year_163 : decode cX5_year 163 = .ok (.bipush 60, 2) := by decide +kernel
theorem dX5_year_165 : decode cX5_year 165 = .ok (.iload_n 2, 1) := by decide +kernel
theorem dX5_year_166 : decode cX5_year 166 = .ok (.imul, 1) := by decide +kernel
theorem dX5_year_167 : decode cX5_year 167 = .ok (.iload 4, 2) := by decide +kernel
theorem dX5_year_169 : decode cX5_year 169 = .ok (.iadd, 1) := by decide +kernel
theorem dX5_year_170 : decode cX5_year 170 = .ok (.iload 9, 2) := by decide +kernel
theorem dX5_year_172 : decode cX5_year 172 = .ok (.iadd, 1) := by decide +kernel
theorem dX5_year_173 : decode cX5_year 173 = .ok (.iaload, 1) := by decide +kernel
theorem dX5_year_174 : decode cX5_year 174 = .ok (.invokevirtual 125, 3) := by decide +kernel
theorem dX5_year_177 : decode cX5_year 177 = .ok (.ifCond .eq 9, 3) := by decide +kernel
theorem dX5_year_180 : decode cX5_year 180 = .ok (.aload_n 0, 1) := by decide +kernel
theorem dX5_year_181 : decode cX5_year 181 = .ok (.iconst (-1), 1) := by decide +kernel
theorem dX5_year_182 : decode cX5_year 182 = .ok (.invokevirtual 106, 3) := by decide +kernel
theorem dX5_year_185 : decode cX5_year 185 = .ok (.ireturn, 1) := by decide +kernel
theorem dX5_year_186 : decode cX5_year 186 = .ok (.iinc 9 1, 3) := by decide +kernel
theorem dX5_year_189 : decode cX5_year 189 = .ok (.goto (-40), 3) := by decide +kernel
theorem dX5_year_192 : decode cX5_year 192 = .ok (.aload_n 0, 1) := by decide +kernel
theorem dX5_year_193 : decode cX5_year 193 = .ok (.invokevirtual 197, 3) := by decide +kernel
theorem dX5_year_196 : decode cX5_year 196 = .ok (.aload_n 0, 1) := by decide +kernel
theorem dX5_year_197 : decode cX5_year 197 = .ok (.iload_n 1, 1) := by decide +kernel
theorem dX5_year_198 : decode cX5_year 198 = .ok (.bipush 60, 2) := by decide +kernel
theorem dX5_year_200 : decode cX5_year 200 = .ok (.iload_n 2, 1) := by decide +kernel
theorem dX5_year_201 : decode cX5_year 201 = .ok (.imul, 1) := by decide +kernel
theorem dX5_year_202 : decode cX5_year 202 = .ok (.iload 4, 2) := by decide +kernel
theorem dX5_year_204 : decode cX5_year 204 = .ok (.iadd, 1) := by decide +kernel
theorem dX5_year_205 : decode cX5_year 205 = .ok (.iload 5, 2) := by decide +kernel
theorem dX5_year_207 : decode cX5_year 207 = .ok (.invokevirtual 200, 3) := by decide +kernel
theorem dX5_year_210 : decode cX5_year 210 = .ok (.aload_n 0, 1) := by decide +kernel
theorem dX5_year_211 : decode cX5_year 211 = .ok (.iload 6, 2) := by decide +kernel
theorem dX5_year_213 : decode cX5_year 213 = .ok (.invokevirtual 204, 3) := by decide +kernel
theorem dX5_year_216 : decode cX5_year 216 = .ok (.istore 9, 2) := by decide +kernel
theorem dX5_year_218 : decode cX5_year 218 = .ok (.aload_n 0, 1) := by decide +kernel
theorem dX5_year_219 : decode cX5_year 219 = .ok (.invokevirtual 207, 3) := by decide +kernel
theorem dX5_year_222 : decode cX5_year 222 = .ok (.aload_n 0, 1) := by decide +kernel
theorem dX5_year_223 : decode cX5_year 223 = .ok (.iload 9, 2) := by decide +kernel
theorem dX5_year_225 : decode cX5_year 225 = .ok (.invokevirtual 106, 3) := by decide +kernel
theorem dX5_year_228 : decode cX5_year 228 = .ok (.ireturn, 1) := by decide +kernel
set_option maxRecDepth 20000 in
theorem ggX5_name_X5_noHouse : GoodIn wsX5_name wsX5_noHouse := goodIn_r _ [5, 6, 7, 8, 4, 9, 70, 71, 72, 73, 74, 75, 76, 77, 78, 79, 80, 81, 82, 83, 84, 85, 86, 87, 88, 89, 90, 91, 92, 93, 94] (by decide +kernel) (by decide +kernel)
set_option maxRecDepth 20000 in
theorem gX5_name_X5_noHouse : GoodIn wsX5_name (wsV RX5 125 RX5 yX5_noHouse wsX5_noHouse) := goodIn_app (goodIn_of _ (by decide +kernel)) ggX5_name_X5_noHouse
set_option maxRecDepth 20000 in
theorem ggX5_name_X5_noCost : GoodIn wsX5_name wsX5_noCost := goodIn_r _ [12, 13, 7, 8, 4, 9] (by decide +kernel) (by decide +kernel)
set_option maxRecDepth 20000 in
theorem gX5_name_X5_noCost : GoodIn wsX5_name (va_wsS RX5 145 yX5_noCost wsX5_noCost) := goodIn_app (goodIn_of _ (by decide +kernel)) ggX5_name_X5_noCost
set_option maxRecDepth 20000 in
theorem ggX5_name_X5_choiceOf : GoodIn wsX5_name wsX5_choiceOf := goodIn_r _ [17, 6, 18, 19, 20, 4, 21, 22, 23, 24, 25, 26, 27, 28, 29, 30, 31, 32, 33, 34, 35, 36, 37, 38, 39, 40, 41, 42, 43, 44, 45, 46, 47, 48, 49, 50, 70, 71, 72, 73, 74, 75, 76, 77, 78, 79, 80, 81, 82, 83, 84, 85, 86, 87, 88, 89, 90, 91, 92, 93, 94] (by decide +kernel) (by decide +kernel)
set_option maxRecDepth 20000 in
theorem gX5_name_X5_choiceOf : GoodIn wsX5_name (wsV RX5 162 RX5 yX5_choiceOf wsX5_choiceOf) := goodIn_app (goodIn_of _ (by decide +kernel)) ggX5_name_X5_choiceOf
set_option maxRecDepth 20000 in
theorem ggX5_name_X5_goPair : GoodIn wsX5_name wsX5_goPair := goodIn_r _ [54, 55, 22, 31, 56, 57, 58, 59, 60, 4, 61, 43, 44, 45, 46, 38, 39, 40, 41, 42, 27, 28, 29, 30, 32, 33, 34, 35, 36, 37, 62, 63, 64, 65, 6, 47, 48, 49, 50, 66, 67, 68, 69, 70, 71, 72, 73, 74, 75, 76, 77, 78, 79, 80, 81, 82, 83, 84, 85, 86, 87, 88, 89, 90, 91, 92, 93, 94] (by decide +kernel) (by decide +kernel)
set_option maxRecDepth 20000 in
theorem gX5_name_X5_goPair : GoodIn wsX5_name (wsV RX5 181 RX5 yX5_goPair wsX5_goPair) := goodIn_app (goodIn_of _ (by decide +kernel)) ggX5_name_X5_goPair
theorem dX5_name_0 : decode cX5_name 0 = .ok (.aload_n 0, 1) := by decide +kernel
theorem dX5_name_1 : decode cX5_name 1 = .ok (.iload_n 1, 1) := by decide +kernel
theorem dX5_name_2 : decode cX5_name 2 = .ok (.invokevirtual 125, 3) := by decide +kernel
theorem dX5_name_5 : decode cX5_name 5 = .ok (.ifCond .eq 5, 3) := by decide +kernel
theorem dX5_name_8 : decode cX5_name 8 = .ok (.iconst (-1), 1) := by decide +kernel
theorem dX5_name_9 : decode cX5_name 9 = .ok (.ireturn, 1) := by decide +kernel
theorem dX5_name_10 : decode cX5_name 10 = .ok (.iload_n 2, 1) := by decide +kernel
theorem dX5_name_11 : decode cX5_name 11 = .ok (.invokestatic 145, 3) := by decide +kernel
theorem dX5_name_14 : decode cX5_name 14 = .ok (.ifCond .eq 8, 3) := by decide +kernel
theorem dX5_name_17 : decode cX5_name 17 = .ok (.bipush (-2), 2) := by decide +kernel
theorem dX5_name_19 : decode cX5_name 19 = .ok (.goto 15, 3) := by decide +kernel
theorem dX5_name_22 : decode cX5_name 22 = .ok (.aload_n 0, 1) := by decide +kernel
theorem dX5_name_23 : decode cX5_name 23 = .ok (.iload_n 1, 1) := by decide +kernel
theorem dX5_name_24 : decode cX5_name 24 = .ok (.aload_n 0, 1) := by decide +kernel
theorem dX5_name_25 : decode cX5_name 25 = .ok (.iload_n 1, 1) := by decide +kernel
theorem dX5_name_26 : decode cX5_name 26 = .ok (.iload_n 2, 1) := by decide +kernel
theorem dX5_name_27 : decode cX5_name 27 = .ok (.invokevirtual 162, 3) := by decide +kernel
theorem dX5_name_30 : decode cX5_name 30 = .ok (.iload_n 2, 1) := by decide +kernel
theorem dX5_name_31 : decode cX5_name 31 = .ok (.invokevirtual 181, 3) := by decide +kernel
theorem dX5_name_34 : decode cX5_name 34 = .ok (.ireturn, 1) := by decide +kernel
set_option maxRecDepth 20000 in
theorem ggX5_isPointedAt_X5_choiceOf : GoodIn wsX5_isPointedAt wsX5_choiceOf := goodIn_r _ [6, 1, 7, 8, 9, 5, 10, 11, 12, 13, 14, 15, 16, 17, 18, 19, 20, 21, 22, 23, 24, 25, 26, 27, 28, 29, 30, 31, 32, 33, 34, 35, 36, 37, 38, 39, 40, 41, 42, 43, 44, 45, 46, 47, 48, 49, 50, 51, 52, 53, 54, 55, 56, 57, 58, 59, 60, 61, 62, 63, 64] (by decide +kernel) (by decide +kernel)
set_option maxRecDepth 20000 in
theorem gX5_isPointedAt_X5_choiceOf : GoodIn wsX5_isPointedAt (wsV RX5 162 RX5 yX5_choiceOf wsX5_choiceOf) := goodIn_app (goodIn_of _ (by decide +kernel)) ggX5_isPointedAt_X5_choiceOf
theorem dX5_isPointedAt_0 : decode cX5_isPointedAt 0 = .ok (.iconst 0, 1) := by decide +kernel
theorem dX5_isPointedAt_1 : decode cX5_isPointedAt 1 = .ok (.istore_n 3, 1) := by decide +kernel
theorem dX5_isPointedAt_2 : decode cX5_isPointedAt 2 = .ok (.iconst 0, 1) := by decide +kernel
theorem dX5_isPointedAt_3 : decode cX5_isPointedAt 3 = .ok (.istore 4, 2) := by decide +kernel
theorem dX5_isPointedAt_5 : decode cX5_isPointedAt 5 = .ok (.iload 4, 2) := by decide +kernel
theorem dX5_isPointedAt_7 : decode cX5_isPointedAt 7 = .ok (.aload_n 0, 1) := by decide +kernel
theorem dX5_isPointedAt_8 : decode cX5_isPointedAt 8 = .ok (.getfield 68, 3) := by decide +kernel
theorem dX5_isPointedAt_11 : decode cX5_isPointedAt 11 = .ok (.if_icmp .ge 36, 3) := by decide +kernel
theorem dX5_isPointedAt_14 : decode cX5_isPointedAt 14 = .ok (.iload_n 3, 1) := by decide +kernel
theorem dX5_isPointedAt_15 : decode cX5_isPointedAt 15 = .ok (.ifCond .ne 20, 3) := by decide +kernel
theorem dX5_isPointedAt_18 : decode cX5_isPointedAt 18 = .ok (.iload 4, 2) := by decide +kernel
theorem dX5_isPointedAt_20 : decode cX5_isPointedAt 20 = .ok (.iload_n 1, 1) := by decide +kernel
theorem dX5_isPointedAt_21 : decode cX5_isPointedAt 21 = .ok (.if_icmp .eq 18, 3) := by decide +kernel
theorem dX5_isPointedAt_24 : decode cX5_isPointedAt 24 = .ok (.aload_n 0, 1) := by decide +kernel
theorem dX5_isPointedAt_25 : decode cX5_isPointedAt 25 = .ok (.iload 4, 2) := by decide +kernel
theorem dX5_isPointedAt_27 : decode cX5_isPointedAt 27 = .ok (.iload_n 2, 1) := by decide +kernel
theorem dX5_isPointedAt_28 : decode cX5_isPointedAt 28 = .ok (.invokevirtual 162, 3) := by decide +kernel
theorem dX5_isPointedAt_31 : decode cX5_isPointedAt 31 = .ok (.iload_n 1, 1) := by decide +kernel
theorem dX5_isPointedAt_32 : decode cX5_isPointedAt 32 = .ok (.if_icmp .ne 7, 3) := by decide +kernel
theorem dX5_isPointedAt_35 : decode cX5_isPointedAt 35 = .ok (.iconst 1, 1) := by decide +kernel
theorem dX5_isPointedAt_36 : decode cX5_isPointedAt 36 = .ok (.goto 4, 3) := by decide +kernel
theorem dX5_isPointedAt_39 : decode cX5_isPointedAt 39 = .ok (.iconst 0, 1) := by decide +kernel
theorem dX5_isPointedAt_40 : decode cX5_isPointedAt 40 = .ok (.istore_n 3, 1) := by decide +kernel
theorem dX5_isPointedAt_41 : decode cX5_isPointedAt 41 = .ok (.iinc 4 1, 3) := by decide +kernel
theorem dX5_isPointedAt_44 : decode cX5_isPointedAt 44 = .ok (.goto (-39), 3) := by decide +kernel
theorem dX5_isPointedAt_47 : decode cX5_isPointedAt 47 = .ok (.iload_n 3, 1) := by decide +kernel
theorem dX5_isPointedAt_48 : decode cX5_isPointedAt 48 = .ok (.ireturn, 1) := by decide +kernel
set_option maxRecDepth 20000 in
theorem ggX5_safe_X5_noHouse : GoodIn wsX5_safe wsX5_noHouse := goodIn_r _ [7, 8, 9, 10, 6, 11, 55, 56, 57, 58, 59, 60, 61, 62, 63, 64, 65, 66, 67, 68, 69, 70, 71, 72, 73, 74, 75, 76, 77, 78, 79] (by decide +kernel) (by decide +kernel)
set_option maxRecDepth 20000 in
theorem gX5_safe_X5_noHouse : GoodIn wsX5_safe (wsV RX5 125 RX5 yX5_noHouse wsX5_noHouse) := goodIn_app (goodIn_of _ (by decide +kernel)) ggX5_safe_X5_noHouse
set_option maxRecDepth 20000 in
theorem ggX5_safe_X5_noCost : GoodIn wsX5_safe wsX5_noCost := goodIn_r _ [14, 15, 9, 10, 6, 11] (by decide +kernel) (by decide +kernel)
set_option maxRecDepth 20000 in
theorem gX5_safe_X5_noCost : GoodIn wsX5_safe (va_wsS RX5 145 yX5_noCost wsX5_noCost) := goodIn_app (goodIn_of _ (by decide +kernel)) ggX5_safe_X5_noCost
set_option maxRecDepth 20000 in
theorem ggX5_safe_X5_isPointedAt : GoodIn wsX5_safe wsX5_isPointedAt := goodIn_r _ [19, 8, 20, 21, 22, 6, 23, 24, 25, 26, 27, 1, 28, 29, 30, 31, 32, 33, 34, 35, 2, 36, 37, 38, 39, 40, 41, 42, 43, 44, 45, 46, 47, 48, 49, 50, 51, 52, 53, 54, 55, 56, 57, 58, 59, 60, 61, 62, 63, 64, 65, 66, 67, 68, 69, 70, 71, 72, 73, 74, 75, 76, 77, 78, 79] (by decide +kernel) (by decide +kernel)
set_option maxRecDepth 20000 in
theorem gX5_safe_X5_isPointedAt : GoodIn wsX5_safe (wsV RX5 210 RX5 yX5_isPointedAt wsX5_isPointedAt) := goodIn_app (goodIn_of _ (by decide +kernel)) ggX5_safe_X5_isPointedAt
theorem dX5_safe_0 : decode cX5_safe 0 = .ok (.aload_n 0, 1) := by decide +kernel
theorem dX5_safe_1 : decode cX5_safe 1 = .ok (.iload_n 1, 1) := by decide +kernel
theorem dX5_safe_2 : decode cX5_safe 2 = .ok (.invokevirtual 125, 3) := by decide +kernel
theorem dX5_safe_5 : decode cX5_safe 5 = .ok (.ifCond .eq 5, 3) := by decide +kernel
theorem dX5_safe_8 : decode cX5_safe 8 = .ok (.iconst (-1), 1) := by decide +kernel
theorem dX5_safe_9 : decode cX5_safe 9 = .ok (.ireturn, 1) := by decide +kernel
theorem dX5_safe_10 : decode cX5_safe 10 = .ok (.iload_n 2, 1) := by decide +kernel
theorem dX5_safe_11 : decode cX5_safe 11 = .ok (.invokestatic 145, 3) := by decide +kernel
theorem dX5_safe_14 : decode cX5_safe 14 = .ok (.ifCond .eq 6, 3) := by decide +kernel
theorem dX5_safe_17 : decode cX5_safe 17 = .ok (.bipush (-2), 2) := by decide +kernel
theorem dX5_safe_19 : decode cX5_safe 19 = .ok (.ireturn, 1) := by decide +kernel
theorem dX5_safe_20 : decode cX5_safe 20 = .ok (.aload_n 0, 1) := by decide +kernel
theorem dX5_safe_21 : decode cX5_safe 21 = .ok (.getfield 13, 3) := by decide +kernel
theorem dX5_safe_24 : decode cX5_safe 24 = .ok (.iload_n 1, 1) := by decide +kernel
theorem dX5_safe_25 : decode cX5_safe 25 = .ok (.iaload, 1) := by decide +kernel
theorem dX5_safe_26 : decode cX5_safe 26 = .ok (.istore_n 3, 1) := by decide +kernel
theorem dX5_safe_27 : decode cX5_safe 27 = .ok (.aload_n 0, 1) := by decide +kernel
theorem dX5_safe_28 : decode cX5_safe 28 = .ok (.getfield 16, 3) := by decide +kernel
theorem dX5_safe_31 : decode cX5_safe 31 = .ok (.iload_n 1, 1) := by decide +kernel
theorem dX5_safe_32 : decode cX5_safe 32 = .ok (.iaload, 1) := by decide +kernel
theorem dX5_safe_33 : decode cX5_safe 33 = .ok (.istore 4, 2) := by decide +kernel
theorem dX5_safe_35 : decode cX5_safe 35 = .ok (.bipush (-9), 2) := by decide +kernel
theorem dX5_safe_37 : decode cX5_safe 37 = .ok (.istore 5, 2) := by decide +kernel
theorem dX5_safe_39 : decode cX5_safe 39 = .ok (.iconst 0, 1) := by decide +kernel
theorem dX5_safe_40 : decode cX5_safe 40 = .ok (.istore 6, 2) := by decide +kernel
theorem dX5_safe_42 : decode cX5_safe 42 = .ok (.iload 6, 2) := by decide +kernel
theorem dX5_safe_44 : decode cX5_safe 44 = .ok (.iload_n 3, 1) := by decide +kernel
theorem dX5_safe_45 : decode cX5_safe 45 = .ok (.if_icmp .gt 53, 3) := by decide +kernel
theorem dX5_safe_48 : decode cX5_safe 48 = .ok (.iload 5, 2) := by decide +kernel
theorem dX5_safe_50 : decode cX5_safe 50 = .ok (.ifCond .ge 48, 3) := by decide +kernel
theorem dX5_safe_53 : decode cX5_safe 53 = .ok (.aload_n 0, 1) := by decide +kernel
theorem dX5_safe_54 : decode cX5_safe 54 = .ok (.getfield 13, 3) := by decide +kernel
theorem dX5_safe_57 : decode cX5_safe 57 = .ok (.iload_n 1, 1) := by decide +kernel
theorem dX5_safe_58 : decode cX5_safe 58 = .ok (.iload_n 3, 1) := by decide +kernel
theorem dX5_safe_59 : decode cX5_safe 59 = .ok (.iload 6, 2) := by decide +kernel
theorem dX5_safe_61 : decode cX5_safe 61 = .ok (.isub, 1) := by decide +kernel
theorem dX5_safe_62 : decode cX5_safe 62 = .ok (.iastore, 1) := by decide +kernel
theorem dX5_safe_63 : decode cX5_safe 63 = .ok (.aload_n 0, 1) := by decide +kernel
theorem dX5_safe_64 : decode cX5_safe 64 = .ok (.getfield 16, 3) := by decide +kernel
theorem dX5_safe_67 : decode cX5_safe 67 = .ok (.iload_n 1, 1) := by decide +kernel
theorem dX5_safe_68 : decode cX5_safe 68 = .ok (.iload 4, 2) := by decide +kernel
theorem dX5_safe_70 : decode cX5_safe 70 = .ok (.iload 6, 2) := by decide +kernel
theorem dX5_safe_72 : decode cX5_safe 72 = .ok (.iadd, 1) := by decide +kernel
theorem dX5_safe_73 : decode cX5_safe 73 = .ok (.iastore, 1) := by decide +kernel
theorem dX5_safe_74 : decode cX5_safe 74 = .ok (.aload_n 0, 1) := by decide +kernel
theorem dX5_safe_75 : decode cX5_safe 75 = .ok (.iload_n 1, 1) := by decide +kernel
theorem dX5_safe_76 : decode cX5_safe 76 = .ok (.iload_n 2, 1) := by decide +kernel
theorem dX5_safe_77 : decode cX5_safe 77 = .ok (.invokevirtual 210, 3) := by decide +kernel
theorem dX5_safe_80 : decode cX5_safe 80 = .ok (.ifCond .eq 8, 3) := by decide +kernel
theorem dX5_safe_83 : decode cX5_safe 83 = .ok (.bipush (-9), 2) := by decide +kernel
theorem dX5_safe_85 : decode cX5_safe 85 = .ok (.goto 5, 3) := by decide +kernel
theorem dX5_safe_88 : decode cX5_safe 88 = .ok (.iload 6, 2) := by decide +kernel
theorem dX5_safe_90 : decode cX5_safe 90 = .ok (.istore 5, 2) := by decide +kernel
theorem dX5_safe_92 : decode cX5_safe 92 = .ok (.iinc 6 1, 3) := by decide +kernel
theorem dX5_safe_95 : decode cX5_safe 95 = .ok (.goto (-53), 3) := by decide +kernel
theorem dX5_safe_98 : decode cX5_safe 98 = .ok (.aload_n 0, 1) := by decide +kernel
theorem dX5_safe_99 : decode cX5_safe 99 = .ok (.getfield 13, 3) := by decide +kernel
theorem dX5_safe_102 : decode cX5_safe 102 = .ok (.iload_n 1, 1) := by decide +kernel
theorem dX5_safe_103 : decode cX5_safe 103 = .ok (.iload_n 3, 1) := by decide +kernel
theorem dX5_safe_104 : decode cX5_safe 104 = .ok (.iastore, 1) := by decide +kernel
theorem dX5_safe_105 : decode cX5_safe 105 = .ok (.aload_n 0, 1) := by decide +kernel
theorem dX5_safe_106 : decode cX5_safe 106 = .ok (.getfield 16, 3) := by decide +kernel
theorem dX5_safe_109 : decode cX5_safe 109 = .ok (.iload_n 1, 1) := by decide +kernel
theorem dX5_safe_110 : decode cX5_safe 110 = .ok (.iload 4, 2) := by decide +kernel
theorem dX5_safe_112 : decode cX5_safe 112 = .ok (.iastore, 1) := by decide +kernel
theorem dX5_safe_113 : decode cX5_safe 113 = .ok (.iload 5, 2) := by decide +kernel
theorem dX5_safe_115 : decode cX5_safe 115 = .ok (.ireturn, 1) := by decide +kernel
set_option maxRecDepth 20000 in
theorem ggX5_reading_X5_noHouse : GoodIn wsX5_reading wsX5_noHouse := goodIn_r _ [9, 10, 11, 12, 8, 13, 18, 19, 20, 21, 22, 23, 24, 25, 26, 27, 28, 29, 30, 31, 32, 33, 34, 35, 36, 37, 38, 39, 40, 41, 42] (by decide +kernel) (by decide +kernel)
set_option maxRecDepth 20000 in
theorem gX5_reading_X5_noHouse : GoodIn wsX5_reading (wsV RX5 125 RX5 yX5_noHouse wsX5_noHouse) := goodIn_app (goodIn_of _ (by decide +kernel)) ggX5_reading_X5_noHouse
set_option maxRecDepth 20000 in
theorem ggX5_reading_X5_noCost : GoodIn wsX5_reading wsX5_noCost := goodIn_r _ [16, 17, 11, 12, 8, 13] (by decide +kernel) (by decide +kernel)
set_option maxRecDepth 20000 in
theorem gX5_reading_X5_noCost : GoodIn wsX5_reading (va_wsS RX5 145 yX5_noCost wsX5_noCost) := goodIn_app (goodIn_of _ (by decide +kernel)) ggX5_reading_X5_noCost
theorem dX5_reading_0 : decode cX5_reading 0 = .ok (.aload_n 0, 1) := by decide +kernel
theorem dX5_reading_1 : decode cX5_reading 1 = .ok (.iload_n 1, 1) := by decide +kernel
theorem dX5_reading_2 : decode cX5_reading 2 = .ok (.invokevirtual 125, 3) := by decide +kernel
theorem dX5_reading_5 : decode cX5_reading 5 = .ok (.ifCond .ne 11, 3) := by decide +kernel
theorem dX5_reading_8 : decode cX5_reading 8 = .ok (.aload_n 0, 1) := by decide +kernel
theorem dX5_reading_9 : decode cX5_reading 9 = .ok (.iload_n 3, 1) := by decide +kernel
theorem dX5_reading_10 : decode cX5_reading 10 = .ok (.invokevirtual 125, 3) := by decide +kernel
theorem dX5_reading_13 : decode cX5_reading 13 = .ok (.ifCond .eq 5, 3) := by decide +kernel
theorem dX5_reading_16 : decode cX5_reading 16 = .ok (.iconst (-1), 1) := by decide +kernel
theorem dX5_reading_17 : decode cX5_reading 17 = .ok (.ireturn, 1) := by decide +kernel
theorem dX5_reading_18 : decode cX5_reading 18 = .ok (.iload_n 2, 1) := by decide +kernel
theorem dX5_reading_19 : decode cX5_reading 19 = .ok (.invokestatic 145, 3) := by decide +kernel
theorem dX5_reading_22 : decode cX5_reading 22 = .ok (.ifCond .eq 6, 3) := by decide +kernel
theorem dX5_reading_25 : decode cX5_reading 25 = .ok (.bipush (-2), 2) := by decide +kernel
theorem dX5_reading_27 : decode cX5_reading 27 = .ok (.ireturn, 1) := by decide +kernel
theorem dX5_reading_28 : decode cX5_reading 28 = .ok (.aload_n 0, 1) := by decide +kernel
theorem dX5_reading_29 : decode cX5_reading 29 = .ok (.getfield 118, 3) := by decide +kernel
theorem dX5_reading_32 : decode cX5_reading 32 = .ok (.bipush 8, 2) := by decide +kernel
theorem dX5_reading_34 : decode cX5_reading 34 = .ok (.if_icmp .ne 6, 3) := by decide +kernel
theorem dX5_reading_37 : decode cX5_reading 37 = .ok (.bipush (-4), 2) := by decide +kernel
theorem dX5_reading_39 : decode cX5_reading 39 = .ok (.ireturn, 1) := by decide +kernel
theorem dX5_reading_40 : decode cX5_reading 40 = .ok (.aload_n 0, 1) := by decide +kernel
theorem dX5_reading_41 : decode cX5_reading 41 = .ok (.getfield 37, 3) := by decide +kernel
theorem dX5_reading_44 : decode cX5_reading 44 = .ok (.aload_n 0, 1) := by decide +kernel
theorem dX5_reading_45 : decode cX5_reading 45 = .ok (.getfield 118, 3) := by decide +kernel
theorem dX5_reading_48 : decode cX5_reading 48 = .ok (.iload_n 1, 1) := by decide +kernel
theorem dX5_reading_49 : decode cX5_reading 49 = .ok (.iastore, 1) := by decide +kernel
theorem dX5_reading_50 : decode cX5_reading 50 = .ok (.aload_n 0, 1) := by decide +kernel
theorem dX5_reading_51 : decode cX5_reading 51 = .ok (.getfield 40, 3) := by decide +kernel
theorem dX5_reading_54 : decode cX5_reading 54 = .ok (.aload_n 0, 1) := by decide +kernel
theorem dX5_reading_55 : decode cX5_reading 55 = .ok (.getfield 118, 3) := by decide +kernel
theorem dX5_reading_58 : decode cX5_reading 58 = .ok (.iload_n 2, 1) := by decide +kernel
theorem dX5_reading_59 : decode cX5_reading 59 = .ok (.iastore, 1) := by decide +kernel
theorem dX5_reading_60 : decode cX5_reading 60 = .ok (.aload_n 0, 1) := by decide +kernel
theorem dX5_reading_61 : decode cX5_reading 61 = .ok (.getfield 43, 3) := by decide +kernel
theorem dX5_reading_64 : decode cX5_reading 64 = .ok (.aload_n 0, 1) := by decide +kernel
theorem dX5_reading_65 : decode cX5_reading 65 = .ok (.getfield 118, 3) := by decide +kernel
theorem dX5_reading_68 : decode cX5_reading 68 = .ok (.iload_n 3, 1) := by decide +kernel
theorem dX5_reading_69 : decode cX5_reading 69 = .ok (.iastore, 1) := by decide +kernel
theorem dX5_reading_70 : decode cX5_reading 70 = .ok (.aload_n 0, 1) := by decide +kernel
theorem dX5_reading_71 : decode cX5_reading 71 = .ok (.dup, 1) := by decide +kernel
theorem dX5_reading_72 : decode cX5_reading 72 = .ok (.getfield 118, 3) := by decide +kernel
theorem dX5_reading_75 : decode cX5_reading 75 = .ok (.iconst 1, 1) := by decide +kernel
theorem dX5_reading_76 : decode cX5_reading 76 = .ok (.iadd, 1) := by decide +kernel
theorem dX5_reading_77 : decode cX5_reading 77 = .ok (.putfield 118, 3) := by decide +kernel
theorem dX5_reading_80 : decode cX5_reading 80 = .ok (.aload_n 0, 1) := by decide +kernel
theorem dX5_reading_81 : decode cX5_reading 81 = .ok (.getfield 118, 3) := by decide +kernel
theorem dX5_reading_84 : decode cX5_reading 84 = .ok (.iconst 1, 1) := by decide +kernel
theorem dX5_reading_85 : decode cX5_reading 85 = .ok (.isub, 1) := by decide +kernel
theorem dX5_reading_86 : decode cX5_reading 86 = .ok (.ireturn, 1) := by decide +kernel
set_option maxRecDepth 20000 in
theorem ggX5_back_X5_in : GoodIn wsX5_back wsX5_in := goodIn_r _ [5] (by decide +kernel) (by decide +kernel)
set_option maxRecDepth 20000 in
theorem gX5_back_X5_in : GoodIn wsX5_back (va_wsS RX5 71 yX5_in wsX5_in) := goodIn_app (goodIn_of _ (by decide +kernel)) ggX5_back_X5_in
