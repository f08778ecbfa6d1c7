theorem dX10_sends_117 : decode cX10_sends 117 = .ok (.aload_n 0, 1) := by decide +kernel
theorem dX10_sends_118 : decode cX10_sends 118 = .ok (.iload_n 3, 1) := by decide +kernel
theorem dX10_sends_119 : decode cX10_sends 119 = .ok (.iload 4, 2) := by decide +kernel
theorem dX10_sends_121 : decode cX10_sends 121 = .ok (.invokevirtual 128, 3) := by decide +kernel
theorem dX10_sends_124 : decode cX10_sends 124 = .ok (.aload_n 0, 1) := by decide +kernel
theorem dX10_sends_125 : decode cX10_sends 125 = .ok (.getfield 16, 3) := by decide +kernel
theorem dX10_sends_128 : decode cX10_sends 128 = .ok (.iload_n 1, 1) := by decide +kernel
theorem dX10_sends_129 : decode cX10_sends 129 = .ok (.iaload, 1) := by decide +kernel
theorem dX10_sends_130 : decode cX10_sends 130 = .ok (.iconst 3, 1) := by decide +kernel
theorem dX10_sends_131 : decode cX10_sends 131 = .ok (.if_icmp .ne 23, 3) := by decide +kernel
theorem dX10_sends_134 : decode cX10_sends 134 = .ok (.aload_n 0, 1) := by decide +kernel
theorem dX10_sends_135 : decode cX10_sends 135 = .ok (.getfield 36, 3) := by decide +kernel
theorem dX10_sends_138 : decode cX10_sends 138 = .ok (.iload_n 1, 1) := by decide +kernel
theorem dX10_sends_139 : decode cX10_sends 139 = .ok (.iaload, 1) := by decide +kernel
theorem dX10_sends_140 : decode cX10_sends 140 = .ok (.aload_n 0, 1) := by decide +kernel
theorem dX10_sends_141 : decode cX10_sends 141 = .ok (.getfield 30, 3) := by decide +kernel
theorem dX10_sends_144 : decode cX10_sends 144 = .ok (.iload_n 1, 1) := by decide +kernel
theorem dX10_sends_145 : decode cX10_sends 145 = .ok (.iaload, 1) := by decide +kernel
theorem dX10_sends_146 : decode cX10_sends 146 = .ok (.irem, 1) := by decide +kernel
theorem dX10_sends_147 : decode cX10_sends 147 = .ok (.ifCond .ne 7, 3) := by decide +kernel
theorem dX10_sends_150 : decode cX10_sends 150 = .ok (.iconst 1, 1) := by decide +kernel
theorem dX10_sends_151 : decode cX10_sends 151 = .ok (.goto 4, 3) := by decide +kernel
theorem dX10_sends_154 : decode cX10_sends 154 = .ok (.iconst 0, 1) := by decide +kernel
theorem dX10_sends_155 : decode cX10_sends 155 = .ok (.ixor, 1) := by decide +kernel
theorem dX10_sends_156 : decode cX10_sends 156 = .ok (.iastore, 1) := by decide +kernel
theorem dX10_sends_157 : decode cX10_sends 157 = .ok (.aload_n 0, 1) := by decide +kernel
theorem dX10_sends_158 : decode cX10_sends 158 = .ok (.getfield 105, 3) := by decide +kernel
theorem dX10_sends_161 : decode cX10_sends 161 = .ok (.aload_n 0, 1) := by decide +kernel
theorem dX10_sends_162 : decode cX10_sends 162 = .ok (.getfield 170, 3) := by decide +kernel
theorem dX10_sends_165 : decode cX10_sends 165 = .ok (.aload_n 0, 1) := by decide +kernel
theorem dX10_sends_166 : decode cX10_sends 166 = .ok (.getfield 16, 3) := by decide +kernel
theorem dX10_sends_169 : decode cX10_sends 169 = .ok (.iload_n 1, 1) := by decide +kernel
theorem dX10_sends_170 : decode cX10_sends 170 = .ok (.iaload, 1) := by decide +kernel
theorem dX10_sends_171 : decode cX10_sends 171 = .ok (.iconst 4, 1) := by decide +kernel
theorem dX10_sends_172 : decode cX10_sends 172 = .ok (.if_icmp .ne 12, 3) := by decide +kernel
theorem dX10_sends_175 : decode cX10_sends 175 = .ok (.aload_n 0, 1) := by decide +kernel
theorem dX10_sends_176 : decode cX10_sends 176 = .ok (.getfield 202, 3) := by decide +kernel
theorem dX10_sends_179 : decode cX10_sends 179 = .ok (.iconst 2, 1) := by decide +kernel
theorem dX10_sends_180 : decode cX10_sends 180 = .ok (.iadd, 1) := by decide +kernel
theorem dX10_sends_181 : decode cX10_sends 181 = .ok (.goto 7, 3) := by decide +kernel
theorem dX10_sends_184 : decode cX10_sends 184 = .ok (.aload_n 0, 1) := by decide +kernel
theorem dX10_sends_185 : decode cX10_sends 185 = .ok (.getfield 202, 3) := by decide +kernel
theorem dX10_sends_188 : decode cX10_sends 188 = .ok (.iastore, 1) := by decide +kernel
theorem dX10_sends_189 : decode cX10_sends 189 = .ok (.aload_n 0, 1) := by decide +kernel
theorem dX10_sends_190 : decode cX10_sends 190 = .ok (.getfield 108, 3) := by decide +kernel
theorem dX10_sends_193 : decode cX10_sends 193 = .ok (.aload_n 0, 1) := by decide +kernel
theorem dX10_sends_194 : decode cX10_sends 194 = .ok (.getfield 170, 3) := by decide +kernel
theorem dX10_sends_197 : decode cX10_sends 197 = .ok (.aload_n 0, 1) := by decide +kernel
theorem dX10_sends_198 : decode cX10_sends 198 = .ok (.getfield 16, 3) := by decide +kernel
theorem dX10_sends_201 : decode cX10_sends 201 = .ok (.iload_n 1, 1) := by decide +kernel
theorem dX10_sends_202 : decode cX10_sends 202 = .ok (.iaload, 1) := by decide +kernel
theorem dX10_sends_203 : decode cX10_sends 203 = .ok (.iconst 4, 1) := by decide +kernel
theorem dX10_sends_204 : decode cX10_sends 204 = .ok (.if_icmp .eq 7, 3) := by decide +kernel
theorem dX10_sends_207 : decode cX10_sends 207 = .ok (.iconst 1, 1) := by decide +kernel
theorem dX10_sends_208 : decode cX10_sends 208 = .ok (.goto 4, 3) := by decide +kernel
theorem dX10_sends_211 : decode cX10_sends 211 = .ok (.iconst 0, 1) := by decide +kernel
theorem dX10_sends_212 : decode cX10_sends 212 = .ok (.bastore, 1) := by decide +kernel
theorem dX10_sends_213 : decode cX10_sends 213 = .ok (.aload_n 0, 1) := by decide +kernel
theorem dX10_sends_214 : decode cX10_sends 214 = .ok (.dup, 1) := by decide +kernel
theorem dX10_sends_215 : decode cX10_sends 215 = .ok (.getfield 170, 3) := by decide +kernel
theorem dX10_sends_218 : decode cX10_sends 218 = .ok (.iconst 1, 1) := by decide +kernel
theorem dX10_sends_219 : decode cX10_sends 219 = .ok (.iadd, 1) := by decide +kernel
theorem dX10_sends_220 : decode cX10_sends 220 = .ok (.putfield 170, 3) := by decide +kernel
theorem dX10_sends_223 : decode cX10_sends 223 = .ok (.return_, 1) := by decide +kernel
set_option maxRecDepth 20000 in
theorem ggX10_asks_X10_nextBlock : GoodIn wsX10_asks wsX10_nextBlock := goodIn_r _ [10, 3, 5, 11, 12, 9, 13, 14, 15, 16, 17, 18, 19, 20, 21, 90, 91, 92, 93, 94, 95, 96, 97, 98, 99, 100, 101, 102, 103, 104, 105, 106, 107, 108, 109, 110, 111, 112, 113, 114, 115, 116, 117, 118, 119, 120, 121, 122, 123, 124, 125, 126, 127, 128, 129, 130, 131, 132, 133, 134] (by decide +kernel) (by decide +kernel)
set_option maxRecDepth 20000 in
theorem gX10_asks_X10_nextBlock : GoodIn wsX10_asks (wsV RX10 224 RX10 yX10_nextBlock wsX10_nextBlock) := goodIn_app (goodIn_of _ (by decide +kernel)) ggX10_asks_X10_nextBlock
set_option maxRecDepth 20000 in
theorem ggX10_asks_X10_bound : GoodIn wsX10_asks wsX10_bound := goodIn_r _ [25, 4, 3, 5, 26, 18, 19, 20, 27, 11, 12, 9, 13, 90, 91, 92, 93, 94, 95, 96, 97, 98, 99, 100, 101, 102, 103, 104, 105, 106, 107, 108, 109, 110, 111, 112, 113, 114, 115, 116, 117, 118, 119, 120, 121, 122, 123, 124, 125, 126, 127, 128, 129, 130, 131, 132, 133, 134] (by decide +kernel) (by decide +kernel)
set_option maxRecDepth 20000 in
theorem gX10_asks_X10_bound : GoodIn wsX10_asks (wsV RX10 227 RX10 yX10_bound wsX10_bound) := goodIn_app (goodIn_of _ (by decide +kernel)) ggX10_asks_X10_bound
set_option maxRecDepth 20000 in
theorem ggX10_asks_X10_giver : GoodIn wsX10_asks wsX10_giver := goodIn_r _ [31, 32, 33, 34, 35, 36, 9, 37, 38, 39, 40, 41, 42, 43, 44, 45, 46, 47, 48, 49, 50, 51, 52, 2, 53, 90, 91, 92, 93, 94, 95, 96, 97, 98, 99, 100, 101, 102, 103, 104, 105, 106, 107, 108, 109, 110, 111, 112, 113, 114, 115, 116, 117, 118, 119, 120, 121, 122, 123, 124, 125, 126, 127, 128, 129, 130, 131, 132, 133, 134] (by decide +kernel) (by decide +kernel)
set_option maxRecDepth 20000 in
theorem gX10_asks_X10_giver : GoodIn wsX10_asks (wsV RX10 231 RX10 yX10_giver wsX10_giver) := goodIn_app (goodIn_of _ (by decide +kernel)) ggX10_asks_X10_giver
set_option maxRecDepth 20000 in
theorem ggX10_asks_X10_isBegun : GoodIn wsX10_asks wsX10_isBegun := goodIn_r _ [57, 3, 58, 59, 60, 9, 61, 5, 11, 12, 13, 14, 15, 16, 17, 18, 19, 20, 21, 90, 91, 92, 93, 94, 95, 96, 97, 98, 99, 100, 101, 102, 103, 104, 105, 106, 107, 108, 109, 110, 111, 112, 113, 114, 115, 116, 117, 118, 119, 120, 121, 122, 123, 124, 125, 126, 127, 128, 129, 130, 131, 132, 133, 134] (by decide +kernel) (by decide +kernel)
set_option maxRecDepth 20000 in
theorem gX10_asks_X10_isBegun : GoodIn wsX10_asks (wsV RX10 235 RX10 yX10_isBegun wsX10_isBegun) := goodIn_app (goodIn_of _ (by decide +kernel)) ggX10_asks_X10_isBegun
set_option maxRecDepth 20000 in
theorem ggX10_asks_X10_tellers : GoodIn wsX10_asks wsX10_tellers := goodIn_r _ [65, 32, 39, 40, 41, 9, 42, 43, 44, 45, 46, 47, 48, 49, 50, 51, 52, 2, 53, 90, 91, 92, 93, 94, 95, 96, 97, 98, 99, 100, 101, 102, 103, 104, 105, 106, 107, 108, 109, 110, 111, 112, 113, 114, 115, 116, 117, 118, 119, 120, 121, 122, 123, 124, 125, 126, 127, 128, 129, 130, 131, 132, 133, 134] (by decide +kernel) (by decide +kernel)
set_option maxRecDepth 20000 in
theorem gX10_asks_X10_tellers : GoodIn wsX10_asks (wsV RX10 238 RX10 yX10_tellers wsX10_tellers) := goodIn_app (goodIn_of _ (by decide +kernel)) ggX10_asks_X10_tellers
set_option maxRecDepth 20000 in
theorem ggX10_asks_X10_sends : GoodIn wsX10_asks wsX10_sends := goodIn_r _ [69, 33, 70, 71, 72, 73, 74, 19, 18, 27, 20, 21, 75, 53, 76, 77, 78, 79, 46, 47, 9, 48, 80, 81, 82, 83, 84, 85, 90, 91, 92, 93, 94, 95, 96, 97, 98, 99, 100, 101, 102, 103, 104, 105, 106, 107, 108, 109, 110, 111, 112, 113, 114, 115, 116, 117, 118, 119, 120, 121, 122, 123, 124, 125, 126, 127, 128, 129, 130, 131, 132, 133, 134] (by decide +kernel) (by decide +kernel)
set_option maxRecDepth 20000 in
theorem gX10_asks_X10_sends : GoodIn wsX10_asks (wsV RX10 241 RX10 yX10_sends wsX10_sends) := goodIn_app (goodIn_of _ (by decide +kernel)) ggX10_asks_X10_sends
set_option maxRecDepth 20000 in
theorem ggX10_asks_X10_cell : GoodIn wsX10_asks wsX10_cell := goodIn_r _ [13] (by decide +kernel) (by decide +kernel)
set_option maxRecDepth 20000 in
theorem gX10_asks_X10_cell : GoodIn wsX10_asks (va_wsS RX10 163 yX10_cell wsX10_cell) := goodIn_app (goodIn_of _ (by decide +kernel)) ggX10_asks_X10_cell
set_option maxRecDepth 20000 in
theorem ggX10_asks_X10_coming : GoodIn wsX10_asks wsX10_coming := goodIn_r _ [17, 18, 19, 20, 21, 90, 91, 92, 93, 94, 95, 96, 97, 98, 99, 100, 101, 102, 103, 104, 105, 106, 107, 108, 109, 110, 111, 112, 113, 114, 115, 116, 117, 118, 119, 120, 121, 122, 123, 124, 125, 126, 127, 128, 129, 130, 131, 132, 133, 134] (by decide +kernel) (by decide +kernel)
set_option maxRecDepth 20000 in
theorem gX10_asks_X10_coming : GoodIn wsX10_asks (wsV RX10 218 RX10 yX10_coming wsX10_coming) := goodIn_app (goodIn_of _ (by decide +kernel)) ggX10_asks_X10_coming
set_option maxRecDepth 20000 in
theorem ggX10_asks_X10_senderOf : GoodIn wsX10_asks wsX10_senderOf := goodIn_r _ [89, 19, 20, 21, 27, 90, 91, 92, 93, 94, 95, 96, 97, 98, 99, 100, 101, 102, 103, 104, 105, 106, 107, 108, 109, 110, 111, 112, 113, 114, 115, 116, 117, 118, 119, 120, 121, 122, 123, 124, 125, 126, 127, 128, 129, 130, 131, 132, 133, 134] (by decide +kernel) (by decide +kernel)
set_option maxRecDepth 20000 in
theorem gX10_asks_X10_senderOf : GoodIn wsX10_asks (wsV RX10 245 RX10 yX10_senderOf wsX10_senderOf) := goodIn_app (goodIn_of _ (by decide +kernel)) ggX10_asks_X10_senderOf
theorem dX10_asks_0 : decode cX10_asks 0 = .ok (.iconst (-1), 1) := by decide +kernel
theorem dX10_asks_1 : decode cX10_asks 1 = .ok (.istore_n 2, 1) := by decide +kernel
theorem dX10_asks_2 : decode cX10_asks 2 = .ok (.iconst 0, 1) := by decide +kernel
theorem dX10_asks_3 : decode cX10_asks 3 = .ok (.istore_n 3, 1) := by decide +kernel
theorem dX10_asks_4 : decode cX10_asks 4 = .ok (.iconst 0, 1) := by decide +kernel
theorem dX10_asks_5 : decode cX10_asks 5 = .ok (.istore 4, 2) := by decide +kernel
theorem dX10_asks_7 : decode cX10_asks 7 = .ok (.iconst 0, 1) := by decide +kernel
theorem dX10_asks_8 : decode cX10_asks 8 = .ok (.istore 5, 2) := by decide +kernel
theorem dX10_asks_10 : decode cX10_asks 10 = .ok (.iload 5, 2) := by decide +kernel
theorem dX10_asks_12 : decode cX10_asks 12 = .ok (.aload_n 0, 1) := by decide +kernel
theorem dX10_asks_13 : decode cX10_asks 13 = .ok (.getfield 7, 3) := by decide +kernel
theorem dX10_asks_16 : decode cX10_asks 16 = .ok (.if_icmp .ge 117, 3) := by decide +kernel
theorem dX10_asks_19 : decode cX10_asks 19 = .ok (.aload_n 0, 1) := by decide +kernel
theorem dX10_asks_20 : decode cX10_asks 20 = .ok (.getfield 48, 3) := by decide +kernel
theorem dX10_asks_23 : decode cX10_asks 23 = .ok (.bipush 24, 2) := by decide +kernel
theorem dX10_asks_25 : decode cX10_asks 25 = .ok (.iload_n 1, 1) := by decide +kernel
theorem dX10_asks_26 : decode cX10_asks 26 = .ok (.imul, 1) := by decide +kernel
theorem dX10_asks_27 : decode cX10_asks 27 = .ok (.iload 5, 2) := by decide +kernel
theorem dX10_asks_29 : decode cX10_asks 29 = .ok (.iadd, 1) := by decide +kernel
theorem dX10_asks_30 : decode cX10_asks 30 = .ok (.baload, 1) := by decide +kernel
theorem dX10_asks_31 : decode cX10_asks 31 = .ok (.ifCond .ne 96, 3) := by decide +kernel
theorem dX10_asks_34 : decode cX10_asks 34 = .ok (.aload_n 0, 1) := by decide +kernel
theorem dX10_asks_35 : decode cX10_asks 35 = .ok (.iload_n 1, 1) := by decide +kernel
theorem dX10_asks_36 : decode cX10_asks 36 = .ok (.iload 5, 2) := by decide +kernel
theorem dX10_asks_38 : decode cX10_asks 38 = .ok (.invokevirtual 224, 3) := by decide +kernel
theorem dX10_asks_41 : decode cX10_asks 41 = .ok (.iconst (-1), 1) := by decide +kernel
theorem dX10_asks_42 : decode cX10_asks 42 = .ok (.if_icmp .eq 85, 3) := by decide +kernel
theorem dX10_asks_45 : decode cX10_asks 45 = .ok (.aload_n 0, 1) := by decide +kernel
theorem dX10_asks_46 : decode cX10_asks 46 = .ok (.iload_n 1, 1) := by decide +kernel
theorem dX10_asks_47 : decode cX10_asks 47 = .ok (.iload 5, 2) := by decide +kernel
theorem dX10_asks_49 : decode cX10_asks 49 = .ok (.aload_n 0, 1) := by decide +kernel
theorem dX10_asks_50 : decode cX10_asks 50 = .ok (.iload_n 1, 1) := by decide +kernel
theorem dX10_asks_51 : decode cX10_asks 51 = .ok (.iload 5, 2) := by decide +kernel
theorem dX10_asks_53 : decode cX10_asks 53 = .ok (.iconst 1, 1) := by decide +kernel
theorem dX10_asks_54 : decode cX10_asks 54 = .ok (.invokevirtual 227, 3) := by decide +kernel
theorem dX10_asks_57 : decode cX10_asks 57 = .ok (.iconst (-1), 1) := by decide +kernel
theorem dX10_asks_58 : decode cX10_asks 58 = .ok (.invokevirtual 231, 3) := by decide +kernel
theorem dX10_asks_61 : decode cX10_asks 61 = .ok (.iconst (-1), 1) := by decide +kernel
theorem dX10_asks_62 : decode cX10_asks 62 = .ok (.if_icmp .ne 6, 3) := by decide +kernel
theorem dX10_asks_65 : decode cX10_asks 65 = .ok (.goto 62, 3) := by decide +kernel
theorem dX10_asks_68 : decode cX10_asks 68 = .ok (.aload_n 0, 1) := by decide +kernel
theorem dX10_asks_69 : decode cX10_asks 69 = .ok (.iload_n 1, 1) := by decide +kernel
theorem dX10_asks_70 : decode cX10_asks 70 = .ok (.iload 5, 2) := by decide +kernel
theorem dX10_asks_72 : decode cX10_asks 72 = .ok (.invokevirtual 235, 3) := by decide +kernel
theorem dX10_asks_75 : decode cX10_asks 75 = .ok (.istore 6, 2) := by decide +kernel
theorem dX10_asks_77 : decode cX10_asks 77 = .ok (.aload_n 0, 1) := by decide +kernel
theorem dX10_asks_78 : decode cX10_asks 78 = .ok (.iload_n 1, 1) := by decide +kernel
theorem dX10_asks_79 : decode cX10_asks 79 = .ok (.iload 5, 2) := by decide +kernel
theorem dX10_asks_81 : decode cX10_asks 81 = .ok (.invokevirtual 238, 3) := by decide +kernel
theorem dX10_asks_84 : decode cX10_asks 84 = .ok (.istore 7, 2) := by decide +kernel
theorem dX10_asks_86 : decode cX10_asks 86 = .ok (.iload_n 2, 1) := by decide +kernel
theorem dX10_asks_87 : decode cX10_asks 87 = .ok (.iconst (-1), 1) := by decide +kernel
theorem dX10_asks_88 : decode cX10_asks 88 = .ok (.if_icmp .eq 29, 3) := by decide +kernel
theorem dX10_asks_91 : decode cX10_asks 91 = .ok (.iload 4, 2) := by decide +kernel
theorem dX10_asks_93 : decode cX10_asks 93 = .ok (.ifCond .eq 8, 3) := by decide +kernel
theorem dX10_asks_96 : decode cX10_asks 96 = .ok (.iload 6, 2) := by decide +kernel
theorem dX10_asks_98 : decode cX10_asks 98 = .ok (.ifCond .eq 29, 3) := by decide +kernel
theorem dX10_asks_101 : decode cX10_asks 101 = .ok (.iload 4, 2) := by decide +kernel
theorem dX10_asks_103 : decode cX10_asks 103 = .ok (.iload 6, 2) := by decide +kernel
theorem dX10_asks_105 : decode cX10_asks 105 = .ok (.if_icmp .ne 12, 3) := by decide +kernel
theorem dX10_asks_108 : decode cX10_asks 108 = .ok (.iload 7, 2) := by decide +kernel
theorem dX10_asks_110 : decode cX10_asks 110 = .ok (.iload_n 3, 1) := by decide +kernel
theorem dX10_asks_111 : decode cX10_asks 111 = .ok (.if_icmp .lt 6, 3) := by decide +kernel
theorem dX10_asks_114 : decode cX10_asks 114 = .ok (.goto 13, 3) := by decide +kernel
theorem dX10_asks_117 : decode cX10_asks 117 = .ok (.iload 5, 2) := by decide +kernel
theorem dX10_asks_119 : decode cX10_asks 119 = .ok (.istore_n 2, 1) := by decide +kernel
theorem dX10_asks_120 : decode cX10_asks 120 = .ok (.iload 7, 2) := by decide +kernel
theorem dX10_asks_122 : decode cX10_asks 122 = .ok (.istore_n 3, 1) := by decide +kernel
theorem dX10_asks_123 : decode cX10_asks 123 = .ok (.iload 6, 2) := by decide +kernel
theorem dX10_asks_125 : decode cX10_asks 125 = .ok (.istore 4, 2) := by decide +kernel
theorem dX10_asks_127 : decode cX10_asks 127 = .ok (.iinc 5 1, 3) := by decide +kernel
theorem dX10_asks_130 : decode cX10_asks 130 = .ok (.goto (-120), 3) := by decide +kernel
theorem dX10_asks_133 : decode cX10_asks 133 = .ok (.iload_n 2, 1) := by decide +kernel
theorem dX10_asks_134 : decode cX10_asks 134 = .ok (.iconst (-1), 1) := by decide +kernel
theorem dX10_asks_135 : decode cX10_asks 135 = .ok (.if_icmp .eq 31, 3) := by decide +kernel
theorem dX10_asks_138 : decode cX10_asks 138 = .ok (.aload_n 0, 1) := by decide +kernel
theorem dX10_asks_139 : decode cX10_asks 139 = .ok (.aload_n 0, 1) := by decide +kernel
theorem dX10_asks_140 : decode cX10_asks 140 = .ok (.iload_n 1, 1) := by decide +kernel
theorem dX10_asks_141 : decode cX10_asks 141 = .ok (.iload_n 2, 1) := by decide +kernel
theorem dX10_asks_142 : decode cX10_asks 142 = .ok (.aload_n 0, 1) := by decide +kernel
theorem dX10_asks_143 : decode cX10_asks 143 = .ok (.iload_n 1, 1) := by decide +kernel
theorem dX10_asks_144 : decode cX10_asks 144 = .ok (.iload_n 2, 1) := by decide +kernel
theorem dX10_asks_145 : decode cX10_asks 145 = .ok (.iconst 1, 1) := by decide +kernel
theorem dX10_asks_146 : decode cX10_asks 146 = .ok (.invokevirtual 227, 3) := by decide +kernel
theorem dX10_asks_149 : decode cX10_asks 149 = .ok (.iconst (-1), 1) := by decide +kernel
theorem dX10_asks_150 : decode cX10_asks 150 = .ok (.invokevirtual 231, 3) := by decide +kernel
