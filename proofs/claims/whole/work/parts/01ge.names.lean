theorem dX10_openTo_27 : decode cX10_openTo 27 = .ok (.iadd, 1) := by decide +kernel
theorem dX10_openTo_28 : decode cX10_openTo 28 = .ok (.istore_n 2, 1) := by decide +kernel
theorem dX10_openTo_29 : decode cX10_openTo 29 = .ok (.iinc 3 1, 3) := by decide +kernel
theorem dX10_openTo_32 : decode cX10_openTo 32 = .ok (.goto (-28), 3) := by decide +kernel
theorem dX10_openTo_35 : decode cX10_openTo 35 = .ok (.iload_n 2, 1) := by decide +kernel
theorem dX10_openTo_36 : decode cX10_openTo 36 = .ok (.ireturn, 1) := by decide +kernel
set_option maxRecDepth 20000 in
theorem ggX10_isOpenTo_X10_two : GoodIn wsX10_isOpenTo wsX10_two := goodIn_r _ [5] (by decide +kernel) (by decide +kernel)
set_option maxRecDepth 20000 in
theorem gX10_isOpenTo_X10_two : GoodIn wsX10_isOpenTo (va_wsS RX10 151 yX10_two wsX10_two) := goodIn_app (goodIn_of _ (by decide +kernel)) ggX10_isOpenTo_X10_two
set_option maxRecDepth 20000 in
theorem ggX10_isOpenTo_X10_isNear : GoodIn wsX10_isOpenTo wsX10_isNear := goodIn_r _ [9, 10, 11, 12, 2, 3, 4, 5, 13, 14, 15, 16, 17, 18, 19, 20, 21, 22, 23, 24, 25, 26, 27, 28, 29, 30, 31, 32, 33, 34, 35, 36, 37, 38, 39, 40, 41, 42, 43, 44, 45, 46, 47, 48, 49, 50, 51, 52, 53, 54, 55, 56, 57] (by decide +kernel) (by decide +kernel)
set_option maxRecDepth 20000 in
theorem gX10_isOpenTo_X10_isNear : GoodIn wsX10_isOpenTo (wsV RX10 154 RX10 yX10_isNear wsX10_isNear) := goodIn_app (goodIn_of _ (by decide +kernel)) ggX10_isOpenTo_X10_isNear
theorem dX10_isOpenTo_0 : decode cX10_isOpenTo 0 = .ok (.iload_n 1, 1) := by decide +kernel
theorem dX10_isOpenTo_1 : decode cX10_isOpenTo 1 = .ok (.iload_n 2, 1) := by decide +kernel
theorem dX10_isOpenTo_2 : decode cX10_isOpenTo 2 = .ok (.if_icmp .eq 29, 3) := by decide +kernel
theorem dX10_isOpenTo_5 : decode cX10_isOpenTo 5 = .ok (.aload_n 0, 1) := by decide +kernel
theorem dX10_isOpenTo_6 : decode cX10_isOpenTo 6 = .ok (.getfield 66, 3) := by decide +kernel
theorem dX10_isOpenTo_9 : decode cX10_isOpenTo 9 = .ok (.iload_n 1, 1) := by decide +kernel
theorem dX10_isOpenTo_10 : decode cX10_isOpenTo 10 = .ok (.iload_n 2, 1) := by decide +kernel
theorem dX10_isOpenTo_11 : decode cX10_isOpenTo 11 = .ok (.invokestatic 151, 3) := by decide +kernel
theorem dX10_isOpenTo_14 : decode cX10_isOpenTo 14 = .ok (.baload, 1) := by decide +kernel
theorem dX10_isOpenTo_15 : decode cX10_isOpenTo 15 = .ok (.ifCond .eq 16, 3) := by decide +kernel
theorem dX10_isOpenTo_18 : decode cX10_isOpenTo 18 = .ok (.aload_n 0, 1) := by decide +kernel
theorem dX10_isOpenTo_19 : decode cX10_isOpenTo 19 = .ok (.iload_n 1, 1) := by decide +kernel
theorem dX10_isOpenTo_20 : decode cX10_isOpenTo 20 = .ok (.iload_n 2, 1) := by decide +kernel
theorem dX10_isOpenTo_21 : decode cX10_isOpenTo 21 = .ok (.invokevirtual 154, 3) := by decide +kernel
theorem dX10_isOpenTo_24 : decode cX10_isOpenTo 24 = .ok (.ifCond .eq 7, 3) := by decide +kernel
theorem dX10_isOpenTo_27 : decode cX10_isOpenTo 27 = .ok (.iconst 1, 1) := by decide +kernel
theorem dX10_isOpenTo_28 : decode cX10_isOpenTo 28 = .ok (.goto 4, 3) := by decide +kernel
theorem dX10_isOpenTo_31 : decode cX10_isOpenTo 31 = .ok (.iconst 0, 1) := by decide +kernel
theorem dX10_isOpenTo_32 : decode cX10_isOpenTo 32 = .ok (.ireturn, 1) := by decide +kernel
set_option maxRecDepth 20000 in
theorem ggX10_about_X10_isPeer : GoodIn wsX10_about wsX10_isPeer := goodIn_r _ [18, 12, 19, 20, 17, 21, 66, 67, 68, 69, 70, 71, 72, 73, 74, 75, 76, 77, 78, 79, 80, 81, 82, 83, 84, 85, 86, 87, 88, 89, 90, 91, 92, 93, 94, 95, 96, 97, 98, 99, 100, 101, 102, 103, 104, 105, 106, 107, 108, 109, 110] (by decide +kernel) (by decide +kernel)
set_option maxRecDepth 20000 in
theorem gX10_about_X10_isPeer : GoodIn wsX10_about (wsV RX10 147 RX10 yX10_isPeer wsX10_isPeer) := goodIn_app (goodIn_of _ (by decide +kernel)) ggX10_about_X10_isPeer
set_option maxRecDepth 20000 in
theorem ggX10_about_X10_hasMany : GoodIn wsX10_about wsX10_hasMany := goodIn_r _ [25, 9, 26, 66, 67, 68, 69, 70, 71, 72, 73, 74, 75, 76, 77, 78, 79, 80, 81, 82, 83, 84, 85, 86, 87, 88, 89, 90, 91, 92, 93, 94, 95, 96, 97, 98, 99, 100, 101, 102, 103, 104, 105, 106, 107, 108, 109, 110] (by decide +kernel) (by decide +kernel)
set_option maxRecDepth 20000 in
theorem gX10_about_X10_hasMany : GoodIn wsX10_about (wsV RX10 160 RX10 yX10_hasMany wsX10_hasMany) := goodIn_app (goodIn_of _ (by decide +kernel)) ggX10_about_X10_hasMany
set_option maxRecDepth 20000 in
theorem ggX10_about_X10_holdsMany : GoodIn wsX10_about wsX10_holdsMany := goodIn_r _ [30, 9, 26, 31, 32, 33, 17, 34, 35, 36, 37, 38, 39, 66, 67, 68, 69, 70, 71, 72, 73, 74, 75, 76, 77, 78, 79, 80, 81, 82, 83, 84, 85, 86, 87, 88, 89, 90, 91, 92, 93, 94, 95, 96, 97, 98, 99, 100, 101, 102, 103, 104, 105, 106, 107, 108, 109, 110] (by decide +kernel) (by decide +kernel)
set_option maxRecDepth 20000 in
theorem gX10_about_X10_holdsMany : GoodIn wsX10_about (wsV RX10 267 RX10 yX10_holdsMany wsX10_holdsMany) := goodIn_app (goodIn_of _ (by decide +kernel)) ggX10_about_X10_holdsMany
set_option maxRecDepth 20000 in
theorem ggX10_about_X10_count : GoodIn wsX10_about wsX10_count := goodIn_r _ [43] (by decide +kernel) (by decide +kernel)
set_option maxRecDepth 20000 in
theorem gX10_about_X10_count : GoodIn wsX10_about (wsV RX10 270 RX10 yX10_count wsX10_count) := goodIn_app (goodIn_of _ (by decide +kernel)) ggX10_about_X10_count
set_option maxRecDepth 20000 in
theorem ggX10_about_X10_comingTo : GoodIn wsX10_about wsX10_comingTo := goodIn_r _ [47, 48, 49, 66, 67, 68, 69, 70, 71, 72, 73, 74, 75, 76, 77, 78, 79, 80, 81, 82, 83, 84, 85, 86, 87, 88, 89, 90, 91, 92, 93, 94, 95, 96, 97, 98, 99, 100, 101, 102, 103, 104, 105, 106, 107, 108, 109, 110] (by decide +kernel) (by decide +kernel)
set_option maxRecDepth 20000 in
theorem gX10_about_X10_comingTo : GoodIn wsX10_about (wsV RX10 274 RX10 yX10_comingTo wsX10_comingTo) := goodIn_app (goodIn_of _ (by decide +kernel)) ggX10_about_X10_comingTo
set_option maxRecDepth 20000 in
theorem ggX10_about_X10_openTo : GoodIn wsX10_about wsX10_openTo := goodIn_r _ [53, 12, 54, 55, 56, 17, 57, 58, 59, 60, 61, 62, 63, 64, 65, 13, 3, 11, 66, 67, 68, 69, 70, 71, 72, 73, 74, 75, 76, 77, 78, 79, 80, 81, 82, 83, 84, 85, 86, 87, 88, 89, 90, 91, 92, 93, 94, 95, 96, 97, 98, 99, 100, 101, 102, 103, 104, 105, 106, 107, 108, 109, 110] (by decide +kernel) (by decide +kernel)
set_option maxRecDepth 20000 in
theorem gX10_about_X10_openTo : GoodIn wsX10_about (wsV RX10 277 RX10 yX10_openTo wsX10_openTo) := goodIn_app (goodIn_of _ (by decide +kernel)) ggX10_about_X10_openTo
theorem dX10_about_0 : decode cX10_about 0 = .ok (.aload_n 0, 1) := by decide +kernel
theorem dX10_about_1 : decode cX10_about 1 = .ok (.iconst 0, 1) := by decide +kernel
theorem dX10_about_2 : decode cX10_about 2 = .ok (.putfield 120, 3) := by decide +kernel
theorem dX10_about_5 : decode cX10_about 5 = .ok (.aload_n 0, 1) := by decide +kernel
theorem dX10_about_6 : decode cX10_about 6 = .ok (.iload_n 1, 1) := by decide +kernel
theorem dX10_about_7 : decode cX10_about 7 = .ok (.invokevirtual 147, 3) := by decide +kernel
theorem dX10_about_10 : decode cX10_about 10 = .ok (.ifCond .ne 5, 3) := by decide +kernel
theorem dX10_about_13 : decode cX10_about 13 = .ok (.iconst (-1), 1) := by decide +kernel
theorem dX10_about_14 : decode cX10_about 14 = .ok (.ireturn, 1) := by decide +kernel
theorem dX10_about_15 : decode cX10_about 15 = .ok (.iload_n 2, 1) := by decide +kernel
theorem dX10_about_16 : decode cX10_about 16 = .ok (.tableswitch 204 0 13 #[72, 79, 94, 100, 106, 113, 120, 127, 134, 151, 158, 164, 181, 187], 72) := by decide +kernel
theorem dX10_about_88 : decode cX10_about 88 = .ok (.aload_n 0, 1) := by decide +kernel
theorem dX10_about_89 : decode cX10_about 89 = .ok (.getfield 16, 3) := by decide +kernel
theorem dX10_about_92 : decode cX10_about 92 = .ok (.iload_n 1, 1) := by decide +kernel
theorem dX10_about_93 : decode cX10_about 93 = .ok (.iaload, 1) := by decide +kernel
theorem dX10_about_94 : decode cX10_about 94 = .ok (.ireturn, 1) := by decide +kernel
theorem dX10_about_95 : decode cX10_about 95 = .ok (.aload_n 0, 1) := by decide +kernel
theorem dX10_about_96 : decode cX10_about 96 = .ok (.getfield 26, 3) := by decide +kernel
theorem dX10_about_99 : decode cX10_about 99 = .ok (.iload_n 1, 1) := by decide +kernel
theorem dX10_about_100 : decode cX10_about 100 = .ok (.baload, 1) := by decide +kernel
theorem dX10_about_101 : decode cX10_about 101 = .ok (.ifCond .eq 7, 3) := by decide +kernel
theorem dX10_about_104 : decode cX10_about 104 = .ok (.iconst 1, 1) := by decide +kernel
theorem dX10_about_105 : decode cX10_about 105 = .ok (.goto 4, 3) := by decide +kernel
theorem dX10_about_108 : decode cX10_about 108 = .ok (.iconst 0, 1) := by decide +kernel
theorem dX10_about_109 : decode cX10_about 109 = .ok (.ireturn, 1) := by decide +kernel
theorem dX10_about_110 : decode cX10_about 110 = .ok (.aload_n 0, 1) := by decide +kernel
theorem dX10_about_111 : decode cX10_about 111 = .ok (.iload_n 1, 1) := by decide +kernel
theorem dX10_about_112 : decode cX10_about 112 = .ok (.invokevirtual 160, 3) := by decide +kernel
theorem dX10_about_115 : decode cX10_about 115 = .ok (.ireturn, 1) := by decide +kernel
theorem dX10_about_116 : decode cX10_about 116 = .ok (.aload_n 0, 1) := by decide +kernel
theorem dX10_about_117 : decode cX10_about 117 = .ok (.iload_n 1, 1) := by decide +kernel
theorem dX10_about_118 : decode cX10_about 118 = .ok (.invokevirtual 267, 3) := by decide +kernel
theorem dX10_about_121 : decode cX10_about 121 = .ok (.ireturn, 1) := by decide +kernel
theorem dX10_about_122 : decode cX10_about 122 = .ok (.aload_n 0, 1) := by decide +kernel
theorem dX10_about_123 : decode cX10_about 123 = .ok (.getfield 33, 3) := by decide +kernel
theorem dX10_about_126 : decode cX10_about 126 = .ok (.iload_n 1, 1) := by decide +kernel
theorem dX10_about_127 : decode cX10_about 127 = .ok (.iaload, 1) := by decide +kernel
theorem dX10_about_128 : decode cX10_about 128 = .ok (.ireturn, 1) := by decide +kernel
theorem dX10_about_129 : decode cX10_about 129 = .ok (.aload_n 0, 1) := by decide +kernel
theorem dX10_about_130 : decode cX10_about 130 = .ok (.getfield 36, 3) := by decide +kernel
theorem dX10_about_133 : decode cX10_about 133 = .ok (.iload_n 1, 1) := by decide +kernel
theorem dX10_about_134 : decode cX10_about 134 = .ok (.iaload, 1) := by decide +kernel
theorem dX10_about_135 : decode cX10_about 135 = .ok (.ireturn, 1) := by decide +kernel
theorem dX10_about_136 : decode cX10_about 136 = .ok (.aload_n 0, 1) := by decide +kernel
theorem dX10_about_137 : decode cX10_about 137 = .ok (.getfield 39, 3) := by decide +kernel
theorem dX10_about_140 : decode cX10_about 140 = .ok (.iload_n 1, 1) := by decide +kernel
theorem dX10_about_141 : decode cX10_about 141 = .ok (.iaload, 1) := by decide +kernel
theorem dX10_about_142 : decode cX10_about 142 = .ok (.ireturn, 1) := by decide +kernel
theorem dX10_about_143 : decode cX10_about 143 = .ok (.aload_n 0, 1) := by decide +kernel
theorem dX10_about_144 : decode cX10_about 144 = .ok (.getfield 42, 3) := by decide +kernel
theorem dX10_about_147 : decode cX10_about 147 = .ok (.iload_n 1, 1) := by decide +kernel
theorem dX10_about_148 : decode cX10_about 148 = .ok (.iaload, 1) := by decide +kernel
theorem dX10_about_149 : decode cX10_about 149 = .ok (.ireturn, 1) := by decide +kernel
theorem dX10_about_150 : decode cX10_about 150 = .ok (.aload_n 0, 1) := by decide +kernel
theorem dX10_about_151 : decode cX10_about 151 = .ok (.aload_n 0, 1) := by decide +kernel
theorem dX10_about_152 : decode cX10_about 152 = .ok (.getfield 51, 3) := by decide +kernel
theorem dX10_about_155 : decode cX10_about 155 = .ok (.bipush 24, 2) := by decide +kernel
theorem dX10_about_157 : decode cX10_about 157 = .ok (.iload_n 1, 1) := by decide +kernel
theorem dX10_about_158 : decode cX10_about 158 = .ok (.imul, 1) := by decide +kernel
theorem dX10_about_159 : decode cX10_about 159 = .ok (.aload_n 0, 1) := by decide +kernel
theorem dX10_about_160 : decode cX10_about 160 = .ok (.getfield 7, 3) := by decide +kernel
theorem dX10_about_163 : decode cX10_about 163 = .ok (.invokevirtual 270, 3) := by decide +kernel
theorem dX10_about_166 : decode cX10_about 166 = .ok (.ireturn, 1) := by decide +kernel
theorem dX10_about_167 : decode cX10_about 167 = .ok (.aload_n 0, 1) := by decide +kernel
theorem dX10_about_168 : decode cX10_about 168 = .ok (.getfield 45, 3) := by decide +kernel
theorem dX10_about_171 : decode cX10_about 171 = .ok (.iload_n 1, 1) := by decide +kernel
theorem dX10_about_172 : decode cX10_about 172 = .ok (.iaload, 1) := by decide +kernel
theorem dX10_about_173 : decode cX10_about 173 = .ok (.ireturn, 1) := by decide +kernel
theorem dX10_about_174 : decode cX10_about 174 = .ok (.aload_n 0, 1) := by decide +kernel
theorem dX10_about_175 : decode cX10_about 175 = .ok (.iload_n 1, 1) := by decide +kernel
theorem dX10_about_176 : decode cX10_about 176 = .ok (.invokevirtual 274, 3) := by decide +kernel
theorem dX10_about_179 : decode cX10_about 179 = .ok (.ireturn, 1) := by decide +kernel
theorem dX10_about_180 : decode cX10_about 180 = .ok (.aload_n 0, 1) := by decide +kernel
theorem dX10_about_181 : decode cX10_about 181 = .ok (.aload_n 0, 1) := by decide +kernel
theorem dX10_about_182 : decode cX10_about 182 = .ok (.getfield 69, 3) := by decide +kernel
theorem dX10_about_185 : decode cX10_about 185 = .ok (.bipush 12, 2) := by decide +kernel
theorem dX10_about_187 : decode cX10_about 187 = .ok (.iload_n 1, 1) := by decide +kernel
theorem dX10_about_188 : decode cX10_about 188 = .ok (.imul, 1) := by decide +kernel
theorem dX10_about_189 : decode cX10_about 189 = .ok (.aload_n 0, 1) := by decide +kernel
theorem dX10_about_190 : decode cX10_about 190 = .ok (.getfield 136, 3) := by decide +kernel
theorem dX10_about_193 : decode cX10_about 193 = .ok (.invokevirtual 270, 3) := by decide +kernel
theorem dX10_about_196 : decode cX10_about 196 = .ok (.ireturn, 1) := by decide +kernel
theorem dX10_about_197 : decode cX10_about 197 = .ok (.aload_n 0, 1) := by decide +kernel
theorem dX10_about_198 : decode cX10_about 198 = .ok (.iload_n 1, 1) := by decide +kernel
theorem dX10_about_199 : decode cX10_about 199 = .ok (.invokevirtual 277, 3) := by decide +kernel
theorem dX10_about_202 : decode cX10_about 202 = .ok (.ireturn, 1) := by decide +kernel
theorem dX10_about_203 : decode cX10_about 203 = .ok (.aload_n 0, 1) := by decide +kernel
theorem dX10_about_204 : decode cX10_about 204 = .ok (.aload_n 0, 1) := by decide +kernel
theorem dX10_about_205 : decode cX10_about 205 = .ok (.getfield 63, 3) := by decide +kernel
theorem dX10_about_208 : decode cX10_about 208 = .ok (.bipush 12, 2) := by decide +kernel
theorem dX10_about_210 : decode cX10_about 210 = .ok (.iload_n 1, 1) := by decide +kernel
theorem dX10_about_211 : decode cX10_about 211 = .ok (.imul, 1) := by decide +kernel
theorem dX10_about_212 : decode cX10_about 212 = .ok (.aload_n 0, 1) := by decide +kernel
theorem dX10_about_213 : decode cX10_about 213 = .ok (.getfield 136, 3) := by decide +kernel
theorem dX10_about_216 : decode cX10_about 216 = .ok (.invokevirtual 270, 3) := by decide +kernel
theorem dX10_about_219 : decode cX10_about 219 = .ok (.ireturn, 1) := by decide +kernel
theorem dX10_about_220 : decode cX10_about 220 = .ok (.iconst (-1), 1) := by decide +kernel
theorem dX10_about_221 : decode cX10_about 221 = .ok (.ireturn, 1) := by decide +kernel
set_option maxRecDepth 20000 in
theorem ggX10_held_X10_isPeer : GoodIn wsX10_held wsX10_isPeer := goodIn_r _ [6, 7, 8, 9, 5, 10, 25, 26, 27, 28, 29, 30, 31, 32, 33, 34, 35, 36, 37, 38, 39, 40, 41, 42, 43, 44, 45, 46, 47, 48, 49, 50, 51, 52, 53, 54, 55, 56, 57, 58, 59, 60, 61, 62, 63, 64, 65, 66, 67, 68, 69] (by decide +kernel) (by decide +kernel)
set_option maxRecDepth 20000 in
theorem gX10_held_X10_isPeer : GoodIn wsX10_held (wsV RX10 147 RX10 yX10_isPeer wsX10_isPeer) := goodIn_app (goodIn_of _ (by decide +kernel)) ggX10_held_X10_isPeer
set_option maxRecDepth 20000 in
theorem ggX10_held_X10_isBlock : GoodIn wsX10_held wsX10_isBlock := goodIn_r _ [14, 15, 16, 8, 9, 5, 10, 25, 26, 27, 28, 29, 30, 31, 32, 33, 34, 35, 36, 37, 38, 39, 40, 41, 42, 43, 44, 45, 46, 47, 48, 49, 50, 51, 52, 53, 54, 55, 56, 57, 58, 59, 60, 61, 62, 63, 64, 65, 66, 67, 68, 69] (by decide +kernel) (by decide +kernel)
set_option maxRecDepth 20000 in
theorem gX10_held_X10_isBlock : GoodIn wsX10_held (wsV RX10 139 RX10 yX10_isBlock wsX10_isBlock) := goodIn_app (goodIn_of _ (by decide +kernel)) ggX10_held_X10_isBlock
set_option maxRecDepth 20000 in
theorem ggX10_held_X10_heldMany : GoodIn wsX10_held wsX10_heldMany := goodIn_r _ [20, 16, 21, 22, 23, 5, 24, 25, 26, 27, 28, 29, 30, 31, 32, 33, 34, 35, 36, 37, 38, 39, 40, 41, 42, 43, 44, 45, 46, 47, 48, 49, 50, 51, 52, 53, 54, 55, 56, 57, 58, 59, 60, 61, 62, 63, 64, 65, 66, 67, 68, 69] (by decide +kernel) (by decide +kernel)
