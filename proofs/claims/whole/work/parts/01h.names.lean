theorem dX10_got_36 : decode cX10_got 36 = .ok (.aload_n 0, 1) := by decide +kernel
theorem dX10_got_37 : decode cX10_got 37 = .ok (.getfield 57, 3) := by decide +kernel
theorem dX10_got_40 : decode cX10_got 40 = .ok (.iload_n 1, 1) := by decide +kernel
theorem dX10_got_41 : decode cX10_got 41 = .ok (.iload_n 2, 1) := by decide +kernel
theorem dX10_got_42 : decode cX10_got 42 = .ok (.iload_n 3, 1) := by decide +kernel
theorem dX10_got_43 : decode cX10_got 43 = .ok (.invokestatic 163, 3) := by decide +kernel
theorem dX10_got_46 : decode cX10_got 46 = .ok (.iaload, 1) := by decide +kernel
theorem dX10_got_47 : decode cX10_got 47 = .ok (.goto 4, 3) := by decide +kernel
theorem dX10_got_50 : decode cX10_got 50 = .ok (.iconst 0, 1) := by decide +kernel
theorem dX10_got_51 : decode cX10_got 51 = .ok (.ireturn, 1) := by decide +kernel
set_option maxRecDepth 20000 in
theorem ggX10_rare_X10_isPeer : GoodIn wsX10_rare wsX10_isPeer := goodIn_r _ [6, 7, 8, 9, 5, 10, 37, 38, 39, 40, 41, 42, 43, 44, 45, 46, 47, 48, 49, 50, 51, 52, 53, 54, 55, 56, 57, 58, 59, 60, 61, 62, 63, 64, 65, 66, 67, 68, 69, 70, 71, 72, 73, 74, 75, 76, 77, 78, 79, 80, 81] (by decide +kernel) (by decide +kernel)
set_option maxRecDepth 20000 in
theorem gX10_rare_X10_isPeer : GoodIn wsX10_rare (wsV RX10 147 RX10 yX10_isPeer wsX10_isPeer) := goodIn_app (goodIn_of _ (by decide +kernel)) ggX10_rare_X10_isPeer
set_option maxRecDepth 20000 in
theorem ggX10_rare_X10_isBlock : GoodIn wsX10_rare wsX10_isBlock := goodIn_r _ [14, 15, 16, 8, 9, 5, 10, 37, 38, 39, 40, 41, 42, 43, 44, 45, 46, 47, 48, 49, 50, 51, 52, 53, 54, 55, 56, 57, 58, 59, 60, 61, 62, 63, 64, 65, 66, 67, 68, 69, 70, 71, 72, 73, 74, 75, 76, 77, 78, 79, 80, 81] (by decide +kernel) (by decide +kernel)
set_option maxRecDepth 20000 in
theorem gX10_rare_X10_isBlock : GoodIn wsX10_rare (wsV RX10 139 RX10 yX10_isBlock wsX10_isBlock) := goodIn_app (goodIn_of _ (by decide +kernel)) ggX10_rare_X10_isBlock
set_option maxRecDepth 20000 in
theorem ggX10_rare_X10_tellers : GoodIn wsX10_rare wsX10_tellers := goodIn_r _ [20, 7, 21, 22, 23, 5, 24, 25, 26, 27, 28, 29, 30, 31, 32, 33, 34, 35, 36, 37, 38, 39, 40, 41, 42, 43, 44, 45, 46, 47, 48, 49, 50, 51, 52, 53, 54, 55, 56, 57, 58, 59, 60, 61, 62, 63, 64, 65, 66, 67, 68, 69, 70, 71, 72, 73, 74, 75, 76, 77, 78, 79, 80, 81] (by decide +kernel) (by decide +kernel)
set_option maxRecDepth 20000 in
theorem gX10_rare_X10_tellers : GoodIn wsX10_rare (wsV RX10 238 RX10 yX10_tellers wsX10_tellers) := goodIn_app (goodIn_of _ (by decide +kernel)) ggX10_rare_X10_tellers
theorem dX10_rare_0 : decode cX10_rare 0 = .ok (.aload_n 0, 1) := by decide +kernel
theorem dX10_rare_1 : decode cX10_rare 1 = .ok (.iconst 0, 1) := by decide +kernel
theorem dX10_rare_2 : decode cX10_rare 2 = .ok (.putfield 120, 3) := by decide +kernel
theorem dX10_rare_5 : decode cX10_rare 5 = .ok (.aload_n 0, 1) := by decide +kernel
theorem dX10_rare_6 : decode cX10_rare 6 = .ok (.iload_n 1, 1) := by decide +kernel
theorem dX10_rare_7 : decode cX10_rare 7 = .ok (.invokevirtual 147, 3) := by decide +kernel
theorem dX10_rare_10 : decode cX10_rare 10 = .ok (.ifCond .eq 21, 3) := by decide +kernel
theorem dX10_rare_13 : decode cX10_rare 13 = .ok (.aload_n 0, 1) := by decide +kernel
theorem dX10_rare_14 : decode cX10_rare 14 = .ok (.iload_n 2, 1) := by decide +kernel
theorem dX10_rare_15 : decode cX10_rare 15 = .ok (.iconst 0, 1) := by decide +kernel
theorem dX10_rare_16 : decode cX10_rare 16 = .ok (.invokevirtual 139, 3) := by decide +kernel
theorem dX10_rare_19 : decode cX10_rare 19 = .ok (.ifCond .eq 12, 3) := by decide +kernel
theorem dX10_rare_22 : decode cX10_rare 22 = .ok (.aload_n 0, 1) := by decide +kernel
theorem dX10_rare_23 : decode cX10_rare 23 = .ok (.iload_n 1, 1) := by decide +kernel
theorem dX10_rare_24 : decode cX10_rare 24 = .ok (.iload_n 2, 1) := by decide +kernel
theorem dX10_rare_25 : decode cX10_rare 25 = .ok (.invokevirtual 238, 3) := by decide +kernel
theorem dX10_rare_28 : decode cX10_rare 28 = .ok (.goto 4, 3) := by decide +kernel
theorem dX10_rare_31 : decode cX10_rare 31 = .ok (.iconst (-1), 1) := by decide +kernel
theorem dX10_rare_32 : decode cX10_rare 32 = .ok (.ireturn, 1) := by decide +kernel
set_option maxRecDepth 20000 in
theorem ggX10_pair_X10_isTwo : GoodIn wsX10_pair wsX10_isTwo := goodIn_r _ [11, 12, 13, 14, 10, 15, 16, 17, 18, 19, 58, 59, 60, 61, 62, 63, 64, 65, 66, 67, 68, 69, 70, 71, 72, 73, 74, 75, 76, 77, 78, 79, 80, 81, 82, 83, 84, 85, 86, 87, 88, 89, 90, 91, 92, 93, 94, 95, 96, 97, 98, 99, 100, 101, 102] (by decide +kernel) (by decide +kernel)
set_option maxRecDepth 20000 in
theorem gX10_pair_X10_isTwo : GoodIn wsX10_pair (wsV RX10 167 RX10 yX10_isTwo wsX10_isTwo) := goodIn_app (goodIn_of _ (by decide +kernel)) ggX10_pair_X10_isTwo
set_option maxRecDepth 20000 in
theorem ggX10_pair_X10_two : GoodIn wsX10_pair wsX10_two := goodIn_r _ [22] (by decide +kernel) (by decide +kernel)
set_option maxRecDepth 20000 in
theorem gX10_pair_X10_two : GoodIn wsX10_pair (va_wsS RX10 151 yX10_two wsX10_two) := goodIn_app (goodIn_of _ (by decide +kernel)) ggX10_pair_X10_two
set_option maxRecDepth 20000 in
theorem ggX10_pair_X10_isNear : GoodIn wsX10_pair wsX10_isNear := goodIn_r _ [26, 2, 27, 5, 20, 21, 10, 22, 58, 59, 60, 61, 62, 63, 64, 65, 66, 67, 68, 69, 70, 71, 72, 73, 74, 75, 76, 77, 78, 79, 80, 81, 82, 83, 84, 85, 86, 87, 88, 89, 90, 91, 92, 93, 94, 95, 96, 97, 98, 99, 100, 101, 102] (by decide +kernel) (by decide +kernel)
set_option maxRecDepth 20000 in
theorem gX10_pair_X10_isNear : GoodIn wsX10_pair (wsV RX10 154 RX10 yX10_isNear wsX10_isNear) := goodIn_app (goodIn_of _ (by decide +kernel)) ggX10_pair_X10_isNear
set_option maxRecDepth 20000 in
theorem ggX10_pair_X10_wants : GoodIn wsX10_pair wsX10_wants := goodIn_r _ [31, 32, 33, 23, 24, 25, 10, 26, 2, 27, 5, 20, 21, 22, 34, 35, 36, 37, 38, 58, 59, 60, 61, 62, 63, 64, 65, 66, 67, 68, 69, 70, 71, 72, 73, 74, 75, 76, 77, 78, 79, 80, 81, 82, 83, 84, 85, 86, 87, 88, 89, 90, 91, 92, 93, 94, 95, 96, 97, 98, 99, 100, 101, 102] (by decide +kernel) (by decide +kernel)
set_option maxRecDepth 20000 in
theorem gX10_pair_X10_wants : GoodIn wsX10_pair (wsV RX10 209 RX10 yX10_wants wsX10_wants) := goodIn_app (goodIn_of _ (by decide +kernel)) ggX10_pair_X10_wants
set_option maxRecDepth 20000 in
theorem ggX10_pair_X10_isOpenTo : GoodIn wsX10_pair wsX10_isOpenTo := goodIn_r _ [42, 43, 20, 21, 10, 22, 23, 24, 25, 26, 2, 27, 5, 58, 59, 60, 61, 62, 63, 64, 65, 66, 67, 68, 69, 70, 71, 72, 73, 74, 75, 76, 77, 78, 79, 80, 81, 82, 83, 84, 85, 86, 87, 88, 89, 90, 91, 92, 93, 94, 95, 96, 97, 98, 99, 100, 101, 102] (by decide +kernel) (by decide +kernel)
set_option maxRecDepth 20000 in
theorem gX10_pair_X10_isOpenTo : GoodIn wsX10_pair (wsV RX10 264 RX10 yX10_isOpenTo wsX10_isOpenTo) := goodIn_app (goodIn_of _ (by decide +kernel)) ggX10_pair_X10_isOpenTo
set_option maxRecDepth 20000 in
theorem ggX10_pair_X10_late : GoodIn wsX10_pair wsX10_late := goodIn_r _ [47, 48, 49, 50, 51, 52, 10, 53, 32, 54, 55, 56, 57, 33, 20, 21, 22, 58, 59, 60, 61, 62, 63, 64, 65, 66, 67, 68, 69, 70, 71, 72, 73, 74, 75, 76, 77, 78, 79, 80, 81, 82, 83, 84, 85, 86, 87, 88, 89, 90, 91, 92, 93, 94, 95, 96, 97, 98, 99, 100, 101, 102] (by decide +kernel) (by decide +kernel)
set_option maxRecDepth 20000 in
theorem gX10_pair_X10_late : GoodIn wsX10_pair (wsV RX10 212 RX10 yX10_late wsX10_late) := goodIn_app (goodIn_of _ (by decide +kernel)) ggX10_pair_X10_late
theorem dX10_pair_0 : decode cX10_pair 0 = .ok (.aload_n 0, 1) := by decide +kernel
theorem dX10_pair_1 : decode cX10_pair 1 = .ok (.iconst 0, 1) := by decide +kernel
theorem dX10_pair_2 : decode cX10_pair 2 = .ok (.putfield 120, 3) := by decide +kernel
theorem dX10_pair_5 : decode cX10_pair 5 = .ok (.aload_n 0, 1) := by decide +kernel
theorem dX10_pair_6 : decode cX10_pair 6 = .ok (.iload_n 1, 1) := by decide +kernel
theorem dX10_pair_7 : decode cX10_pair 7 = .ok (.iload_n 2, 1) := by decide +kernel
theorem dX10_pair_8 : decode cX10_pair 8 = .ok (.invokevirtual 167, 3) := by decide +kernel
theorem dX10_pair_11 : decode cX10_pair 11 = .ok (.ifCond .ne 5, 3) := by decide +kernel
theorem dX10_pair_14 : decode cX10_pair 14 = .ok (.iconst (-1), 1) := by decide +kernel
theorem dX10_pair_15 : decode cX10_pair 15 = .ok (.ireturn, 1) := by decide +kernel
theorem dX10_pair_16 : decode cX10_pair 16 = .ok (.iload_n 3, 1) := by decide +kernel
theorem dX10_pair_17 : decode cX10_pair 17 = .ok (.tableswitch 188 0 8 #[51, 70, 85, 100, 115, 122, 133, 144, 163], 51) := by decide +kernel
theorem dX10_pair_68 : decode cX10_pair 68 = .ok (.aload_n 0, 1) := by decide +kernel
theorem dX10_pair_69 : decode cX10_pair 69 = .ok (.getfield 63, 3) := by decide +kernel
theorem dX10_pair_72 : decode cX10_pair 72 = .ok (.iload_n 1, 1) := by decide +kernel
theorem dX10_pair_73 : decode cX10_pair 73 = .ok (.iload_n 2, 1) := by decide +kernel
theorem dX10_pair_74 : decode cX10_pair 74 = .ok (.invokestatic 151, 3) := by decide +kernel
theorem dX10_pair_77 : decode cX10_pair 77 = .ok (.baload, 1) := by decide +kernel
theorem dX10_pair_78 : decode cX10_pair 78 = .ok (.ifCond .eq 7, 3) := by decide +kernel
theorem dX10_pair_81 : decode cX10_pair 81 = .ok (.iconst 1, 1) := by decide +kernel
theorem dX10_pair_82 : decode cX10_pair 82 = .ok (.goto 4, 3) := by decide +kernel
theorem dX10_pair_85 : decode cX10_pair 85 = .ok (.iconst 0, 1) := by decide +kernel
theorem dX10_pair_86 : decode cX10_pair 86 = .ok (.ireturn, 1) := by decide +kernel
theorem dX10_pair_87 : decode cX10_pair 87 = .ok (.aload_n 0, 1) := by decide +kernel
theorem dX10_pair_88 : decode cX10_pair 88 = .ok (.iload_n 1, 1) := by decide +kernel
theorem dX10_pair_89 : decode cX10_pair 89 = .ok (.iload_n 2, 1) := by decide +kernel
theorem dX10_pair_90 : decode cX10_pair 90 = .ok (.invokevirtual 154, 3) := by decide +kernel
theorem dX10_pair_93 : decode cX10_pair 93 = .ok (.ifCond .eq 7, 3) := by decide +kernel
theorem dX10_pair_96 : decode cX10_pair 96 = .ok (.iconst 1, 1) := by decide +kernel
theorem dX10_pair_97 : decode cX10_pair 97 = .ok (.goto 4, 3) := by decide +kernel
theorem dX10_pair_100 : decode cX10_pair 100 = .ok (.iconst 0, 1) := by decide +kernel
theorem dX10_pair_101 : decode cX10_pair 101 = .ok (.ireturn, 1) := by decide +kernel
theorem dX10_pair_102 : decode cX10_pair 102 = .ok (.aload_n 0, 1) := by decide +kernel
theorem dX10_pair_103 : decode cX10_pair 103 = .ok (.iload_n 2, 1) := by decide +kernel
theorem dX10_pair_104 : decode cX10_pair 104 = .ok (.iload_n 1, 1) := by decide +kernel
theorem dX10_pair_105 : decode cX10_pair 105 = .ok (.invokevirtual 209, 3) := by decide +kernel
theorem dX10_pair_108 : decode cX10_pair 108 = .ok (.ifCond .eq 7, 3) := by decide +kernel
theorem dX10_pair_111 : decode cX10_pair 111 = .ok (.iconst 1, 1) := by decide +kernel
theorem dX10_pair_112 : decode cX10_pair 112 = .ok (.goto 4, 3) := by decide +kernel
theorem dX10_pair_115 : decode cX10_pair 115 = .ok (.iconst 0, 1) := by decide +kernel
theorem dX10_pair_116 : decode cX10_pair 116 = .ok (.ireturn, 1) := by decide +kernel
theorem dX10_pair_117 : decode cX10_pair 117 = .ok (.aload_n 0, 1) := by decide +kernel
theorem dX10_pair_118 : decode cX10_pair 118 = .ok (.iload_n 1, 1) := by decide +kernel
theorem dX10_pair_119 : decode cX10_pair 119 = .ok (.iload_n 2, 1) := by decide +kernel
theorem dX10_pair_120 : decode cX10_pair 120 = .ok (.invokevirtual 264, 3) := by decide +kernel
theorem dX10_pair_123 : decode cX10_pair 123 = .ok (.ifCond .eq 7, 3) := by decide +kernel
theorem dX10_pair_126 : decode cX10_pair 126 = .ok (.iconst 1, 1) := by decide +kernel
theorem dX10_pair_127 : decode cX10_pair 127 = .ok (.goto 4, 3) := by decide +kernel
theorem dX10_pair_130 : decode cX10_pair 130 = .ok (.iconst 0, 1) := by decide +kernel
theorem dX10_pair_131 : decode cX10_pair 131 = .ok (.ireturn, 1) := by decide +kernel
theorem dX10_pair_132 : decode cX10_pair 132 = .ok (.aload_n 0, 1) := by decide +kernel
theorem dX10_pair_133 : decode cX10_pair 133 = .ok (.iload_n 1, 1) := by decide +kernel
theorem dX10_pair_134 : decode cX10_pair 134 = .ok (.iload_n 2, 1) := by decide +kernel
theorem dX10_pair_135 : decode cX10_pair 135 = .ok (.invokevirtual 212, 3) := by decide +kernel
theorem dX10_pair_138 : decode cX10_pair 138 = .ok (.ireturn, 1) := by decide +kernel
theorem dX10_pair_139 : decode cX10_pair 139 = .ok (.aload_n 0, 1) := by decide +kernel
theorem dX10_pair_140 : decode cX10_pair 140 = .ok (.getfield 75, 3) := by decide +kernel
theorem dX10_pair_143 : decode cX10_pair 143 = .ok (.iload_n 1, 1) := by decide +kernel
theorem dX10_pair_144 : decode cX10_pair 144 = .ok (.iload_n 2, 1) := by decide +kernel
theorem dX10_pair_145 : decode cX10_pair 145 = .ok (.invokestatic 151, 3) := by decide +kernel
theorem dX10_pair_148 : decode cX10_pair 148 = .ok (.iaload, 1) := by decide +kernel
theorem dX10_pair_149 : decode cX10_pair 149 = .ok (.ireturn, 1) := by decide +kernel
theorem dX10_pair_150 : decode cX10_pair 150 = .ok (.aload_n 0, 1) := by decide +kernel
theorem dX10_pair_151 : decode cX10_pair 151 = .ok (.getfield 72, 3) := by decide +kernel
theorem dX10_pair_154 : decode cX10_pair 154 = .ok (.iload_n 1, 1) := by decide +kernel
theorem dX10_pair_155 : decode cX10_pair 155 = .ok (.iload_n 2, 1) := by decide +kernel
theorem dX10_pair_156 : decode cX10_pair 156 = .ok (.invokestatic 151, 3) := by decide +kernel
theorem dX10_pair_159 : decode cX10_pair 159 = .ok (.iaload, 1) := by decide +kernel
theorem dX10_pair_160 : decode cX10_pair 160 = .ok (.ireturn, 1) := by decide +kernel
theorem dX10_pair_161 : decode cX10_pair 161 = .ok (.aload_n 0, 1) := by decide +kernel
theorem dX10_pair_162 : decode cX10_pair 162 = .ok (.getfield 69, 3) := by decide +kernel
theorem dX10_pair_165 : decode cX10_pair 165 = .ok (.iload_n 1, 1) := by decide +kernel
theorem dX10_pair_166 : decode cX10_pair 166 = .ok (.iload_n 2, 1) := by decide +kernel
theorem dX10_pair_167 : decode cX10_pair 167 = .ok (.invokestatic 151, 3) := by decide +kernel
theorem dX10_pair_170 : decode cX10_pair 170 = .ok (.baload, 1) := by decide +kernel
theorem dX10_pair_171 : decode cX10_pair 171 = .ok (.ifCond .eq 7, 3) := by decide +kernel
theorem dX10_pair_174 : decode cX10_pair 174 = .ok (.iconst 1, 1) := by decide +kernel
theorem dX10_pair_175 : decode cX10_pair 175 = .ok (.goto 4, 3) := by decide +kernel
theorem dX10_pair_178 : decode cX10_pair 178 = .ok (.iconst 0, 1) := by decide +kernel
theorem dX10_pair_179 : decode cX10_pair 179 = .ok (.ireturn, 1) := by decide +kernel
theorem dX10_pair_180 : decode cX10_pair 180 = .ok (.aload_n 0, 1) := by decide +kernel
theorem dX10_pair_181 : decode cX10_pair 181 = .ok (.getfield 84, 3) := by decide +kernel
theorem dX10_pair_184 : decode cX10_pair 184 = .ok (.iload_n 1, 1) := by decide +kernel
theorem dX10_pair_185 : decode cX10_pair 185 = .ok (.iaload, 1) := by decide +kernel
theorem dX10_pair_186 : decode cX10_pair 186 = .ok (.iload_n 2, 1) := by decide +kernel
theorem dX10_pair_187 : decode cX10_pair 187 = .ok (.if_icmp .ne 16, 3) := by decide +kernel
theorem dX10_pair_190 : decode cX10_pair 190 = .ok (.aload_n 0, 1) := by decide +kernel
theorem dX10_pair_191 : decode cX10_pair 191 = .ok (.iload_n 1, 1) := by decide +kernel
theorem dX10_pair_192 : decode cX10_pair 192 = .ok (.iload_n 2, 1) := by decide +kernel
theorem dX10_pair_193 : decode cX10_pair 193 = .ok (.invokevirtual 264, 3) := by decide +kernel
theorem dX10_pair_196 : decode cX10_pair 196 = .ok (.ifCond .eq 7, 3) := by decide +kernel
theorem dX10_pair_199 : decode cX10_pair 199 = .ok (.iconst 1, 1) := by decide +kernel
theorem dX10_pair_200 : decode cX10_pair 200 = .ok (.goto 4, 3) := by decide +kernel
theorem dX10_pair_203 : decode cX10_pair 203 = .ok (.iconst 0, 1) := by decide +kernel
theorem dX10_pair_204 : decode cX10_pair 204 = .ok (.ireturn, 1) := by decide +kernel
theorem dX10_pair_205 : decode cX10_pair 205 = .ok (.iconst (-1), 1) := by decide +kernel
theorem dX10_pair_206 : decode cX10_pair 206 = .ok (.ireturn, 1) := by decide +kernel
theorem dX10_owners_0 : decode cX10_owners 0 = .ok (.iconst 0, 1) := by decide +kernel
theorem dX10_owners_1 : decode cX10_owners 1 = .ok (.istore_n 3, 1) := by decide +kernel
theorem dX10_owners_2 : decode cX10_owners 2 = .ok (.iconst 0, 1) := by decide +kernel
theorem dX10_owners_3 : decode cX10_owners 3 = .ok (.istore 4, 2) := by decide +kernel
theorem dX10_owners_5 : decode cX10_owners 5 = .ok (.iload 4, 2) := by decide +kernel
theorem dX10_owners_7 : decode cX10_owners 7 = .ok (.aload_n 0, 1) := by decide +kernel
theorem dX10_owners_8 : decode cX10_owners 8 = .ok (.getfield 136, 3) := by decide +kernel
theorem dX10_owners_11 : decode cX10_owners 11 = .ok (.if_icmp .ge 48, 3) := by decide +kernel
theorem dX10_owners_14 : decode cX10_owners 14 = .ok (.iload_n 3, 1) := by decide +kernel
theorem dX10_owners_15 : decode cX10_owners 15 = .ok (.iload 4, 2) := by decide +kernel
theorem dX10_owners_17 : decode cX10_owners 17 = .ok (.iload_n 2, 1) := by decide +kernel
theorem dX10_owners_18 : decode cX10_owners 18 = .ok (.if_icmp .eq 32, 3) := by decide +kernel
theorem dX10_owners_21 : decode cX10_owners 21 = .ok (.aload_n 0, 1) := by decide +kernel
theorem dX10_owners_22 : decode cX10_owners 22 = .ok (.getfield 26, 3) := by decide +kernel
theorem dX10_owners_25 : decode cX10_owners 25 = .ok (.iload 4, 2) := by decide +kernel
theorem dX10_owners_27 : decode cX10_owners 27 = .ok (.baload, 1) := by decide +kernel
theorem dX10_owners_28 : decode cX10_owners 28 = .ok (.ifCond .eq 22, 3) := by decide +kernel
theorem dX10_owners_31 : decode cX10_owners 31 = .ok (.aload_n 0, 1) := by decide +kernel
theorem dX10_owners_32 : decode cX10_owners 32 = .ok (.getfield 48, 3) := by decide +kernel
theorem dX10_owners_35 : decode cX10_owners 35 = .ok (.bipush 24, 2) := by decide +kernel
theorem dX10_owners_37 : decode cX10_owners 37 = .ok (.iload 4, 2) := by decide +kernel
theorem dX10_owners_39 : decode cX10_owners 39 = .ok (.imul, 1) := by decide +kernel
theorem dX10_owners_40 : decode cX10_owners 40 = .ok (.iload_n 1, 1) := by decide +kernel
theorem dX10_owners_41 : decode cX10_owners 41 = .ok (.iadd, 1) := by decide +kernel
theorem dX10_owners_42 : decode cX10_owners 42 = .ok (.baload, 1) := by decide +kernel
theorem dX10_owners_43 : decode cX10_owners 43 = .ok (.ifCond .eq 7, 3) := by decide +kernel
theorem dX10_owners_46 : decode cX10_owners 46 = .ok (.iconst 1, 1) := by decide +kernel
theorem dX10_owners_47 : decode cX10_owners 47 = .ok (.goto 4, 3) := by decide +kernel
theorem dX10_owners_50 : decode cX10_owners 50 = .ok (.iconst 0, 1) := by decide +kernel
theorem dX10_owners_51 : decode cX10_owners 51 = .ok (.iadd, 1) := by decide +kernel
theorem dX10_owners_52 : decode cX10_owners 52 = .ok (.istore_n 3, 1) := by decide +kernel
theorem dX10_owners_53 : decode cX10_owners 53 = .ok (.iinc 4 1, 3) := by decide +kernel
theorem dX10_owners_56 : decode cX10_owners 56 = .ok (.goto (-51), 3) := by decide +kernel
theorem dX10_owners_59 : decode cX10_owners 59 = .ok (.iload_n 3, 1) := by decide +kernel
theorem dX10_owners_60 : decode cX10_owners 60 = .ok (.ireturn, 1) := by decide +kernel
set_option maxRecDepth 20000 in
theorem ggX10_alone_X10_isPeer : GoodIn wsX10_alone wsX10_isPeer := goodIn_r _ [8, 9, 10, 11, 7, 12, 18, 19, 20, 21, 22, 23, 24, 25, 26, 27, 28, 29, 30, 31, 32, 33, 34, 35, 36, 37, 38, 39, 40, 41, 42, 43, 44, 45, 46, 47, 48, 49, 50, 51, 52, 53, 54, 55, 56, 57, 58, 59, 60, 61, 62] (by decide +kernel) (by decide +kernel)
set_option maxRecDepth 20000 in
theorem gX10_alone_X10_isPeer : GoodIn wsX10_alone (wsV RX10 147 RX10 yX10_isPeer wsX10_isPeer) := goodIn_app (goodIn_of _ (by decide +kernel)) ggX10_alone_X10_isPeer
set_option maxRecDepth 20000 in
theorem ggX10_alone_X10_owners : GoodIn wsX10_alone wsX10_owners := goodIn_r _ [16, 9, 17, 3, 18, 19, 20, 21, 22, 23, 24, 25, 26, 27, 28, 29, 30, 31, 32, 33, 34, 35, 36, 37, 38, 39, 40, 41, 42, 43, 44, 45, 46, 47, 48, 49, 50, 51, 52, 53, 54, 55, 56, 57, 58, 59, 60, 61, 62] (by decide +kernel) (by decide +kernel)
set_option maxRecDepth 20000 in
theorem gX10_alone_X10_owners : GoodIn wsX10_alone (wsV RX10 280 RX10 yX10_owners wsX10_owners) := goodIn_app (goodIn_of _ (by decide +kernel)) ggX10_alone_X10_owners
theorem dX10_alone_0 : decode cX10_alone 0 = .ok (.aload_n 0, 1) := by decide +kernel
theorem dX10_alone_1 : decode cX10_alone 1 = .ok (.iconst 0, 1) := by decide +kernel
theorem dX10_alone_2 : decode cX10_alone 2 = .ok (.putfield 120, 3) := by decide +kernel
theorem dX10_alone_5 : decode cX10_alone 5 = .ok (.iload_n 1, 1) := by decide +kernel
theorem dX10_alone_6 : decode cX10_alone 6 = .ok (.iconst (-1), 1) := by decide +kernel
theorem dX10_alone_7 : decode cX10_alone 7 = .ok (.if_icmp .eq 13, 3) := by decide +kernel
theorem dX10_alone_10 : decode cX10_alone 10 = .ok (.aload_n 0, 1) := by decide +kernel
theorem dX10_alone_11 : decode cX10_alone 11 = .ok (.iload_n 1, 1) := by decide +kernel
theorem dX10_alone_12 : decode cX10_alone 12 = .ok (.invokevirtual 147, 3) := by decide +kernel
theorem dX10_alone_15 : decode cX10_alone 15 = .ok (.ifCond .ne 5, 3) := by decide +kernel
theorem dX10_alone_18 : decode cX10_alone 18 = .ok (.iconst (-1), 1) := by decide +kernel
theorem dX10_alone_19 : decode cX10_alone 19 = .ok (.ireturn, 1) := by decide +kernel
theorem dX10_alone_20 : decode cX10_alone 20 = .ok (.iconst 0, 1) := by decide +kernel
theorem dX10_alone_21 : decode cX10_alone 21 = .ok (.istore_n 2, 1) := by decide +kernel
theorem dX10_alone_22 : decode cX10_alone 22 = .ok (.iconst 0, 1) := by decide +kernel
theorem dX10_alone_23 : decode cX10_alone 23 = .ok (.istore_n 3, 1) := by decide +kernel
theorem dX10_alone_24 : decode cX10_alone 24 = .ok (.iload_n 3, 1) := by decide +kernel
theorem dX10_alone_25 : decode cX10_alone 25 = .ok (.aload_n 0, 1) := by decide +kernel
theorem dX10_alone_26 : decode cX10_alone 26 = .ok (.getfield 7, 3) := by decide +kernel
theorem dX10_alone_29 : decode cX10_alone 29 = .ok (.if_icmp .ge 45, 3) := by decide +kernel
theorem dX10_alone_32 : decode cX10_alone 32 = .ok (.iload_n 2, 1) := by decide +kernel
theorem dX10_alone_33 : decode cX10_alone 33 = .ok (.iload_n 1, 1) := by decide +kernel
theorem dX10_alone_34 : decode cX10_alone 34 = .ok (.iconst (-1), 1) := by decide +kernel
theorem dX10_alone_35 : decode cX10_alone 35 = .ok (.if_icmp .eq 17, 3) := by decide +kernel
theorem dX10_alone_38 : decode cX10_alone 38 = .ok (.aload_n 0, 1) := by decide +kernel
theorem dX10_alone_39 : decode cX10_alone 39 = .ok (.getfield 48, 3) := by decide +kernel
theorem dX10_alone_42 : decode cX10_alone 42 = .ok (.bipush 24, 2) := by decide +kernel
theorem dX10_alone_44 : decode cX10_alone 44 = .ok (.iload_n 1, 1) := by decide +kernel
theorem dX10_alone_45 : decode cX10_alone 45 = .ok (.imul, 1) := by decide +kernel
theorem dX10_alone_46 : decode cX10_alone 46 = .ok (.iload_n 3, 1) := by decide +kernel
theorem dX10_alone_47 : decode cX10_alone 47 = .ok (.iadd, 1) := by decide +kernel
theorem dX10_alone_48 : decode cX10_alone 48 = .ok (.baload, 1) := by decide +kernel
theorem dX10_alone_49 : decode cX10_alone 49 = .ok (.ifCond .eq 16, 3) := by decide +kernel
theorem dX10_alone_52 : decode cX10_alone 52 = .ok (.aload_n 0, 1) := by decide +kernel
theorem dX10_alone_53 : decode cX10_alone 53 = .ok (.iload_n 3, 1) := by decide +kernel
theorem dX10_alone_54 : decode cX10_alone 54 = .ok (.iload_n 1, 1) := by decide +kernel
theorem dX10_alone_55 : decode cX10_alone 55 = .ok (.invokevirtual 280, 3) := by decide +kernel
theorem dX10_alone_58 : decode cX10_alone 58 = .ok (.ifCond .ne 7, 3) := by decide +kernel
theorem dX10_alone_61 : decode cX10_alone 61 = .ok (.iconst 1, 1) := by decide +kernel
theorem dX10_alone_62 : decode cX10_alone 62 = .ok (.goto 4, 3) := by decide +kernel
theorem dX10_alone_65 : decode cX10_alone 65 = .ok (.iconst 0, 1) := by decide +kernel
theorem dX10_alone_66 : decode cX10_alone 66 = .ok (.iadd, 1) := by decide +kernel
theorem dX10_alone_67 : decode cX10_alone 67 = .ok (.istore_n 2, 1) := by decide +kernel
theorem dX10_alone_68 : decode cX10_alone 68 = .ok (.iinc 3 1, 3) := by decide +kernel
theorem dX10_alone_71 : decode cX10_alone 71 = .ok (.goto (-47), 3) := by decide +kernel
theorem dX10_alone_74 : decode cX10_alone 74 = .ok (.iload_n 2, 1) := by decide +kernel
theorem dX10_alone_75 : decode cX10_alone 75 = .ok (.ireturn, 1) := by decide +kernel
theorem dX10_share_0 : decode cX10_share 0 = .ok (.iload_n 0, 1) := by decide +kernel
theorem dX10_share_1 : decode cX10_share 1 = .ok (.iload_n 1, 1) := by decide +kernel
theorem dX10_share_2 : decode cX10_share 2 = .ok (.iadd, 1) := by decide +kernel
theorem dX10_share_3 : decode cX10_share 3 = .ok (.iconst 1, 1) := by decide +kernel
theorem dX10_share_4 : decode cX10_share 4 = .ok (.isub, 1) := by decide +kernel
theorem dX10_share_5 : decode cX10_share 5 = .ok (.iload_n 1, 1) := by decide +kernel
theorem dX10_share_6 : decode cX10_share 6 = .ok (.idiv, 1) := by decide +kernel
theorem dX10_share_7 : decode cX10_share 7 = .ok (.ireturn, 1) := by decide +kernel
set_option maxRecDepth 20000 in
theorem ggX10_bound__X10_isPeer : GoodIn wsX10_bound_ wsX10_isPeer := goodIn_r _ [12, 6, 13, 14, 11, 15, 46, 47, 48, 49, 50, 51, 52, 53, 54, 55, 56, 57, 58, 59, 60, 61, 62, 63, 64, 65, 66, 67, 68, 69, 70, 71, 72, 73, 74, 75, 76, 77, 78, 79, 80, 81, 82, 83, 84, 85, 86, 87, 88, 89, 90] (by decide +kernel) (by decide +kernel)
set_option maxRecDepth 20000 in
theorem gX10_bound__X10_isPeer : GoodIn wsX10_bound_ (wsV RX10 147 RX10 yX10_isPeer wsX10_isPeer) := goodIn_app (goodIn_of _ (by decide +kernel)) ggX10_bound__X10_isPeer
set_option maxRecDepth 20000 in
theorem ggX10_bound__X10_isDone : GoodIn wsX10_bound_ wsX10_isDone := goodIn_r _ [19, 3, 20, 21, 22, 11, 23, 24, 46, 47, 48, 49, 50, 51, 52, 53, 54, 55, 56, 57, 58, 59, 60, 61, 62, 63, 64, 65, 66, 67, 68, 69, 70, 71, 72, 73, 74, 75, 76, 77, 78, 79, 80, 81, 82, 83, 84, 85, 86, 87, 88, 89, 90] (by decide +kernel) (by decide +kernel)
set_option maxRecDepth 20000 in
theorem gX10_bound__X10_isDone : GoodIn wsX10_bound_ (wsV RX10 199 RX10 yX10_isDone wsX10_isDone) := goodIn_app (goodIn_of _ (by decide +kernel)) ggX10_bound__X10_isDone
set_option maxRecDepth 20000 in
theorem ggX10_bound__X10_share : GoodIn wsX10_bound_ wsX10_share := goodIn_r _ [27] (by decide +kernel) (by decide +kernel)
set_option maxRecDepth 20000 in
theorem gX10_bound__X10_share : GoodIn wsX10_bound_ (va_wsS RX10 283 yX10_share wsX10_share) := goodIn_app (goodIn_of _ (by decide +kernel)) ggX10_bound__X10_share
set_option maxRecDepth 20000 in
theorem ggX10_bound__X10_hasMany : GoodIn wsX10_bound_ wsX10_hasMany := goodIn_r _ [23, 3, 24, 46, 47, 48, 49, 50, 51, 52, 53, 54, 55, 56, 57, 58, 59, 60, 61, 62, 63, 64, 65, 66, 67, 68, 69, 70, 71, 72, 73, 74, 75, 76, 77, 78, 79, 80, 81, 82, 83, 84, 85, 86, 87, 88, 89, 90] (by decide +kernel) (by decide +kernel)
set_option maxRecDepth 20000 in
theorem gX10_bound__X10_hasMany : GoodIn wsX10_bound_ (wsV RX10 160 RX10 yX10_hasMany wsX10_hasMany) := goodIn_app (goodIn_of _ (by decide +kernel)) ggX10_bound__X10_hasMany
set_option maxRecDepth 20000 in
theorem ggX10_bound__X10_holdsMany : GoodIn wsX10_bound_ wsX10_holdsMany := goodIn_r _ [31, 3, 24, 32, 33, 34, 11, 35, 4, 36, 37, 38, 39, 46, 47, 48, 49, 50, 51, 52, 53, 54, 55, 56, 57, 58, 59, 60, 61, 62, 63, 64, 65, 66, 67, 68, 69, 70, 71, 72, 73, 74, 75, 76, 77, 78, 79, 80, 81, 82, 83, 84, 85, 86, 87, 88, 89, 90] (by decide +kernel) (by decide +kernel)
set_option maxRecDepth 20000 in
theorem gX10_bound__X10_holdsMany : GoodIn wsX10_bound_ (wsV RX10 267 RX10 yX10_holdsMany wsX10_holdsMany) := goodIn_app (goodIn_of _ (by decide +kernel)) ggX10_bound__X10_holdsMany
set_option maxRecDepth 20000 in
theorem ggX10_bound__X10_comingTo : GoodIn wsX10_bound_ wsX10_comingTo := goodIn_r _ [43, 44, 45, 46, 47, 48, 49, 50, 51, 52, 53, 54, 55, 56, 57, 58, 59, 60, 61, 62, 63, 64, 65, 66, 67, 68, 69, 70, 71, 72, 73, 74, 75, 76, 77, 78, 79, 80, 81, 82, 83, 84, 85, 86, 87, 88, 89, 90] (by decide +kernel) (by decide +kernel)
set_option maxRecDepth 20000 in
theorem gX10_bound__X10_comingTo : GoodIn wsX10_bound_ (wsV RX10 274 RX10 yX10_comingTo wsX10_comingTo) := goodIn_app (goodIn_of _ (by decide +kernel)) ggX10_bound__X10_comingTo
theorem dX10_bound__0 : decode cX10_bound_ 0 = .ok (.aload_n 0, 1) := by decide +kernel
theorem dX10_bound__1 : decode cX10_bound_ 1 = .ok (.iconst 0, 1) := by decide +kernel
theorem dX10_bound__2 : decode cX10_bound_ 2 = .ok (.putfield 120, 3) := by decide +kernel
theorem dX10_bound__5 : decode cX10_bound_ 5 = .ok (.aload_n 0, 1) := by decide +kernel
theorem dX10_bound__6 : decode cX10_bound_ 6 = .ok (.iload_n 1, 1) := by decide +kernel
theorem dX10_bound__7 : decode cX10_bound_ 7 = .ok (.invokevirtual 147, 3) := by decide +kernel
theorem dX10_bound__10 : decode cX10_bound_ 10 = .ok (.ifCond .eq 20, 3) := by decide +kernel
theorem dX10_bound__13 : decode cX10_bound_ 13 = .ok (.aload_n 0, 1) := by decide +kernel
theorem dX10_bound__14 : decode cX10_bound_ 14 = .ok (.getfield 26, 3) := by decide +kernel
theorem dX10_bound__17 : decode cX10_bound_ 17 = .ok (.iload_n 1, 1) := by decide +kernel
theorem dX10_bound__18 : decode cX10_bound_ 18 = .ok (.baload, 1) := by decide +kernel
theorem dX10_bound__19 : decode cX10_bound_ 19 = .ok (.ifCond .eq 11, 3) := by decide +kernel
theorem dX10_bound__22 : decode cX10_bound_ 22 = .ok (.aload_n 0, 1) := by decide +kernel
theorem dX10_bound__23 : decode cX10_bound_ 23 = .ok (.iload_n 1, 1) := by decide +kernel
theorem dX10_bound__24 : decode cX10_bound_ 24 = .ok (.invokevirtual 199, 3) := by decide +kernel
theorem dX10_bound__27 : decode cX10_bound_ 27 = .ok (.ifCond .ne 5, 3) := by decide +kernel
theorem dX10_bound__30 : decode cX10_bound_ 30 = .ok (.iconst (-1), 1) := by decide +kernel
theorem dX10_bound__31 : decode cX10_bound_ 31 = .ok (.ireturn, 1) := by decide +kernel
theorem dX10_bound__32 : decode cX10_bound_ 32 = .ok (.aload_n 0, 1) := by decide +kernel
theorem dX10_bound__33 : decode cX10_bound_ 33 = .ok (.getfield 7, 3) := by decide +kernel
theorem dX10_bound__36 : decode cX10_bound_ 36 = .ok (.aload_n 0, 1) := by decide +kernel
theorem dX10_bound__37 : decode cX10_bound_ 37 = .ok (.getfield 13, 3) := by decide +kernel
theorem dX10_bound__40 : decode cX10_bound_ 40 = .ok (.imul, 1) := by decide +kernel
theorem dX10_bound__41 : decode cX10_bound_ 41 = .ok (.istore_n 2, 1) := by decide +kernel
theorem dX10_bound__42 : decode cX10_bound_ 42 = .ok (.iload_n 2, 1) := by decide +kernel
theorem dX10_bound__43 : decode cX10_bound_ 43 = .ok (.aload_n 0, 1) := by decide +kernel
theorem dX10_bound__44 : decode cX10_bound_ 44 = .ok (.getfield 20, 3) := by decide +kernel
theorem dX10_bound__47 : decode cX10_bound_ 47 = .ok (.iload_n 1, 1) := by decide +kernel
theorem dX10_bound__48 : decode cX10_bound_ 48 = .ok (.iaload, 1) := by decide +kernel
theorem dX10_bound__49 : decode cX10_bound_ 49 = .ok (.invokestatic 283, 3) := by decide +kernel
theorem dX10_bound__52 : decode cX10_bound_ 52 = .ok (.istore_n 3, 1) := by decide +kernel
theorem dX10_bound__53 : decode cX10_bound_ 53 = .ok (.iconst 0, 1) := by decide +kernel
theorem dX10_bound__54 : decode cX10_bound_ 54 = .ok (.istore 4, 2) := by decide +kernel
theorem dX10_bound__56 : decode cX10_bound_ 56 = .ok (.aload_n 0, 1) := by decide +kernel
theorem dX10_bound__57 : decode cX10_bound_ 57 = .ok (.getfield 20, 3) := by decide +kernel
theorem dX10_bound__60 : decode cX10_bound_ 60 = .ok (.iload_n 1, 1) := by decide +kernel
theorem dX10_bound__61 : decode cX10_bound_ 61 = .ok (.iaload, 1) := by decide +kernel
theorem dX10_bound__62 : decode cX10_bound_ 62 = .ok (.istore 5, 2) := by decide +kernel
theorem dX10_bound__64 : decode cX10_bound_ 64 = .ok (.iconst 0, 1) := by decide +kernel
theorem dX10_bound__65 : decode cX10_bound_ 65 = .ok (.istore 6, 2) := by decide +kernel
theorem dX10_bound__67 : decode cX10_bound_ 67 = .ok (.iload 6, 2) := by decide +kernel
theorem dX10_bound__69 : decode cX10_bound_ 69 = .ok (.aload_n 0, 1) := by decide +kernel
theorem dX10_bound__70 : decode cX10_bound_ 70 = .ok (.getfield 136, 3) := by decide +kernel
theorem dX10_bound__73 : decode cX10_bound_ 73 = .ok (.if_icmp .ge 99, 3) := by decide +kernel
theorem dX10_bound__76 : decode cX10_bound_ 76 = .ok (.iload 6, 2) := by decide +kernel
theorem dX10_bound__78 : decode cX10_bound_ 78 = .ok (.iload_n 1, 1) := by decide +kernel
theorem dX10_bound__79 : decode cX10_bound_ 79 = .ok (.if_icmp .eq 87, 3) := by decide +kernel
theorem dX10_bound__82 : decode cX10_bound_ 82 = .ok (.aload_n 0, 1) := by decide +kernel
theorem dX10_bound__83 : decode cX10_bound_ 83 = .ok (.getfield 26, 3) := by decide +kernel
theorem dX10_bound__86 : decode cX10_bound_ 86 = .ok (.iload 6, 2) := by decide +kernel
theorem dX10_bound__88 : decode cX10_bound_ 88 = .ok (.baload, 1) := by decide +kernel
theorem dX10_bound__89 : decode cX10_bound_ 89 = .ok (.ifCond .ne 6, 3) := by decide +kernel
theorem dX10_bound__92 : decode cX10_bound_ 92 = .ok (.goto 74, 3) := by decide +kernel
theorem dX10_bound__95 : decode cX10_bound_ 95 = .ok (.aload_n 0, 1) := by decide +kernel
theorem dX10_bound__96 : decode cX10_bound_ 96 = .ok (.iload 6, 2) := by decide +kernel
theorem dX10_bound__98 : decode cX10_bound_ 98 = .ok (.invokevirtual 160, 3) := by decide +kernel
theorem dX10_bound__101 : decode cX10_bound_ 101 = .ok (.ifCond .gt 21, 3) := by decide +kernel
theorem dX10_bound__104 : decode cX10_bound_ 104 = .ok (.aload_n 0, 1) := by decide +kernel
theorem dX10_bound__105 : decode cX10_bound_ 105 = .ok (.iload 6, 2) := by decide +kernel
theorem dX10_bound__107 : decode cX10_bound_ 107 = .ok (.invokevirtual 267, 3) := by decide +kernel
theorem dX10_bound__110 : decode cX10_bound_ 110 = .ok (.ifCond .gt 12, 3) := by decide +kernel
theorem dX10_bound__113 : decode cX10_bound_ 113 = .ok (.aload_n 0, 1) := by decide +kernel
theorem dX10_bound__114 : decode cX10_bound_ 114 = .ok (.iload 6, 2) := by decide +kernel
theorem dX10_bound__116 : decode cX10_bound_ 116 = .ok (.invokevirtual 274, 3) := by decide +kernel
theorem dX10_bound__119 : decode cX10_bound_ 119 = .ok (.ifCond .le 5, 3) := by decide +kernel
theorem dX10_bound__122 : decode cX10_bound_ 122 = .ok (.iconst (-1), 1) := by decide +kernel
theorem dX10_bound__123 : decode cX10_bound_ 123 = .ok (.ireturn, 1) := by decide +kernel
theorem dX10_bound__124 : decode cX10_bound_ 124 = .ok (.iinc 4 1, 3) := by decide +kernel
theorem dX10_bound__127 : decode cX10_bound_ 127 = .ok (.iload 5, 2) := by decide +kernel
theorem dX10_bound__129 : decode cX10_bound_ 129 = .ok (.aload_n 0, 1) := by decide +kernel
theorem dX10_bound__130 : decode cX10_bound_ 130 = .ok (.getfield 20, 3) := by decide +kernel
theorem dX10_bound__133 : decode cX10_bound_ 133 = .ok (.iload 6, 2) := by decide +kernel
theorem dX10_bound__135 : decode cX10_bound_ 135 = .ok (.iaload, 1) := by decide +kernel
theorem dX10_bound__136 : decode cX10_bound_ 136 = .ok (.iadd, 1) := by decide +kernel
theorem dX10_bound__137 : decode cX10_bound_ 137 = .ok (.istore 5, 2) := by decide +kernel
theorem dX10_bound__139 : decode cX10_bound_ 139 = .ok (.iload_n 2, 1) := by decide +kernel
theorem dX10_bound__140 : decode cX10_bound_ 140 = .ok (.aload_n 0, 1) := by decide +kernel
theorem dX10_bound__141 : decode cX10_bound_ 141 = .ok (.getfield 23, 3) := by decide +kernel
theorem dX10_bound__144 : decode cX10_bound_ 144 = .ok (.iload 6, 2) := by decide +kernel
theorem dX10_bound__146 : decode cX10_bound_ 146 = .ok (.iaload, 1) := by decide +kernel
theorem dX10_bound__147 : decode cX10_bound_ 147 = .ok (.invokestatic 283, 3) := by decide +kernel
theorem dX10_bound__150 : decode cX10_bound_ 150 = .ok (.iload_n 3, 1) := by decide +kernel
theorem dX10_bound__151 : decode cX10_bound_ 151 = .ok (.if_icmp .le 15, 3) := by decide +kernel
theorem dX10_bound__154 : decode cX10_bound_ 154 = .ok (.iload_n 2, 1) := by decide +kernel
theorem dX10_bound__155 : decode cX10_bound_ 155 = .ok (.aload_n 0, 1) := by decide +kernel
theorem dX10_bound__156 : decode cX10_bound_ 156 = .ok (.getfield 23, 3) := by decide +kernel
theorem dX10_bound__159 : decode cX10_bound_ 159 = .ok (.iload 6, 2) := by decide +kernel
theorem dX10_bound__161 : decode cX10_bound_ 161 = .ok (.iaload, 1) := by decide +kernel
theorem dX10_bound__162 : decode cX10_bound_ 162 = .ok (.invokestatic 283, 3) := by decide +kernel
theorem dX10_bound__165 : decode cX10_bound_ 165 = .ok (.istore_n 3, 1) := by decide +kernel
theorem dX10_bound__166 : decode cX10_bound_ 166 = .ok (.iinc 6 1, 3) := by decide +kernel
theorem dX10_bound__169 : decode cX10_bound_ 169 = .ok (.goto (-102), 3) := by decide +kernel
theorem dX10_bound__172 : decode cX10_bound_ 172 = .ok (.iload 4, 2) := by decide +kernel
theorem dX10_bound__174 : decode cX10_bound_ 174 = .ok (.ifCond .ne 5, 3) := by decide +kernel
theorem dX10_bound__177 : decode cX10_bound_ 177 = .ok (.iconst (-1), 1) := by decide +kernel
theorem dX10_bound__178 : decode cX10_bound_ 178 = .ok (.ireturn, 1) := by decide +kernel
theorem dX10_bound__179 : decode cX10_bound_ 179 = .ok (.iload_n 2, 1) := by decide +kernel
theorem dX10_bound__180 : decode cX10_bound_ 180 = .ok (.iload 4, 2) := by decide +kernel
theorem dX10_bound__182 : decode cX10_bound_ 182 = .ok (.imul, 1) := by decide +kernel
theorem dX10_bound__183 : decode cX10_bound_ 183 = .ok (.iload 5, 2) := by decide +kernel
theorem dX10_bound__185 : decode cX10_bound_ 185 = .ok (.invokestatic 283, 3) := by decide +kernel
theorem dX10_bound__188 : decode cX10_bound_ 188 = .ok (.iload_n 3, 1) := by decide +kernel
theorem dX10_bound__189 : decode cX10_bound_ 189 = .ok (.if_icmp .le 15, 3) := by decide +kernel
theorem dX10_bound__192 : decode cX10_bound_ 192 = .ok (.iload_n 2, 1) := by decide +kernel
theorem dX10_bound__193 : decode cX10_bound_ 193 = .ok (.iload 4, 2) := by decide +kernel
theorem dX10_bound__195 : decode cX10_bound_ 195 = .ok (.imul, 1) := by decide +kernel
theorem dX10_bound__196 : decode cX10_bound_ 196 = .ok (.iload 5, 2) := by decide +kernel
theorem dX10_bound__198 : decode cX10_bound_ 198 = .ok (.invokestatic 283, 3) := by decide +kernel
theorem dX10_bound__201 : decode cX10_bound_ 201 = .ok (.goto 4, 3) := by decide +kernel
theorem dX10_bound__204 : decode cX10_bound_ 204 = .ok (.iload_n 3, 1) := by decide +kernel
theorem dX10_bound__205 : decode cX10_bound_ 205 = .ok (.ireturn, 1) := by decide +kernel
set_option maxRecDepth 20000 in
theorem ggX10_count__X10_count : GoodIn wsX10_count_ wsX10_count := goodIn_r _ [16] (by decide +kernel) (by decide +kernel)
set_option maxRecDepth 20000 in
theorem gX10_count__X10_count : GoodIn wsX10_count_ (wsV RX10 270 RX10 yX10_count wsX10_count) := goodIn_app (goodIn_of _ (by decide +kernel)) ggX10_count__X10_count
set_option maxRecDepth 20000 in
theorem ggX10_count__X10_isDone : GoodIn wsX10_count_ wsX10_isDone := goodIn_r _ [20, 5, 21, 22, 23, 15, 24, 25, 26, 27, 28, 29, 30, 31, 32, 33, 34, 35, 36, 37, 38, 39, 40, 41, 42, 43, 44, 45, 46, 47, 48, 49, 50, 51, 52, 53, 54, 55, 56, 57, 58, 59, 60, 61, 62, 63, 64, 65, 66, 67, 68, 69, 70] (by decide +kernel) (by decide +kernel)
set_option maxRecDepth 20000 in
theorem gX10_count__X10_isDone : GoodIn wsX10_count_ (wsV RX10 199 RX10 yX10_isDone wsX10_isDone) := goodIn_app (goodIn_of _ (by decide +kernel)) ggX10_count__X10_isDone
theorem dX10_count__0 : decode cX10_count_ 0 = .ok (.aload_n 0, 1) := by decide +kernel
theorem dX10_count__1 : decode cX10_count_ 1 = .ok (.iconst 0, 1) := by decide +kernel
theorem dX10_count__2 : decode cX10_count_ 2 = .ok (.putfield 120, 3) := by decide +kernel
theorem dX10_count__5 : decode cX10_count_ 5 = .ok (.iconst 0, 1) := by decide +kernel
theorem dX10_count__6 : decode cX10_count_ 6 = .ok (.istore_n 2, 1) := by decide +kernel
theorem dX10_count__7 : decode cX10_count_ 7 = .ok (.iload_n 1, 1) := by decide +kernel
theorem dX10_count__8 : decode cX10_count_ 8 = .ok (.tableswitch 162 0 10 #[60, 65, 70, 84, 127, 132, 137, 142, 147, 152, 157], 60) := by decide +kernel
theorem dX10_count__68 : decode cX10_count_ 68 = .ok (.aload_n 0, 1) := by decide +kernel
theorem dX10_count__69 : decode cX10_count_ 69 = .ok (.getfield 202, 3) := by decide +kernel
theorem dX10_count__72 : decode cX10_count_ 72 = .ok (.ireturn, 1) := by decide +kernel
theorem dX10_count__73 : decode cX10_count_ 73 = .ok (.aload_n 0, 1) := by decide +kernel
theorem dX10_count__74 : decode cX10_count_ 74 = .ok (.getfield 136, 3) := by decide +kernel
theorem dX10_count__77 : decode cX10_count_ 77 = .ok (.ireturn, 1) := by decide +kernel
theorem dX10_count__78 : decode cX10_count_ 78 = .ok (.aload_n 0, 1) := by decide +kernel
theorem dX10_count__79 : decode cX10_count_ 79 = .ok (.aload_n 0, 1) := by decide +kernel
theorem dX10_count__80 : decode cX10_count_ 80 = .ok (.getfield 26, 3) := by decide +kernel
theorem dX10_count__83 : decode cX10_count_ 83 = .ok (.iconst 0, 1) := by decide +kernel
theorem dX10_count__84 : decode cX10_count_ 84 = .ok (.aload_n 0, 1) := by decide +kernel
theorem dX10_count__85 : decode cX10_count_ 85 = .ok (.getfield 136, 3) := by decide +kernel
theorem dX10_count__88 : decode cX10_count_ 88 = .ok (.invokevirtual 270, 3) := by decide +kernel
theorem dX10_count__91 : decode cX10_count_ 91 = .ok (.ireturn, 1) := by decide +kernel
theorem dX10_count__92 : decode cX10_count_ 92 = .ok (.iconst 0, 1) := by decide +kernel
theorem dX10_count__93 : decode cX10_count_ 93 = .ok (.istore_n 3, 1) := by decide +kernel
theorem dX10_count__94 : decode cX10_count_ 94 = .ok (.iload_n 3, 1) := by decide +kernel
theorem dX10_count__95 : decode cX10_count_ 95 = .ok (.aload_n 0, 1) := by decide +kernel
theorem dX10_count__96 : decode cX10_count_ 96 = .ok (.getfield 136, 3) := by decide +kernel
theorem dX10_count__99 : decode cX10_count_ 99 = .ok (.if_icmp .ge 34, 3) := by decide +kernel
theorem dX10_count__102 : decode cX10_count_ 102 = .ok (.iload_n 2, 1) := by decide +kernel
theorem dX10_count__103 : decode cX10_count_ 103 = .ok (.aload_n 0, 1) := by decide +kernel
theorem dX10_count__104 : decode cX10_count_ 104 = .ok (.getfield 26, 3) := by decide +kernel
theorem dX10_count__107 : decode cX10_count_ 107 = .ok (.iload_n 3, 1) := by decide +kernel
theorem dX10_count__108 : decode cX10_count_ 108 = .ok (.baload, 1) := by decide +kernel
theorem dX10_count__109 : decode cX10_count_ 109 = .ok (.ifCond .eq 15, 3) := by decide +kernel
theorem dX10_count__112 : decode cX10_count_ 112 = .ok (.aload_n 0, 1) := by decide +kernel
theorem dX10_count__113 : decode cX10_count_ 113 = .ok (.iload_n 3, 1) := by decide +kernel
theorem dX10_count__114 : decode cX10_count_ 114 = .ok (.invokevirtual 199, 3) := by decide +kernel
theorem dX10_count__117 : decode cX10_count_ 117 = .ok (.ifCond .eq 7, 3) := by decide +kernel
theorem dX10_count__120 : decode cX10_count_ 120 = .ok (.iconst 1, 1) := by decide +kernel
theorem dX10_count__121 : decode cX10_count_ 121 = .ok (.goto 4, 3) := by decide +kernel
theorem dX10_count__124 : decode cX10_count_ 124 = .ok (.iconst 0, 1) := by decide +kernel
theorem dX10_count__125 : decode cX10_count_ 125 = .ok (.iadd, 1) := by decide +kernel
theorem dX10_count__126 : decode cX10_count_ 126 = .ok (.istore_n 2, 1) := by decide +kernel
theorem dX10_count__127 : decode cX10_count_ 127 = .ok (.iinc 3 1, 3) := by decide +kernel
theorem dX10_count__130 : decode cX10_count_ 130 = .ok (.goto (-36), 3) := by decide +kernel
theorem dX10_count__133 : decode cX10_count_ 133 = .ok (.iload_n 2, 1) := by decide +kernel
theorem dX10_count__134 : decode cX10_count_ 134 = .ok (.ireturn, 1) := by decide +kernel
theorem dX10_count__135 : decode cX10_count_ 135 = .ok (.aload_n 0, 1) := by decide +kernel
theorem dX10_count__136 : decode cX10_count_ 136 = .ok (.getfield 7, 3) := by decide +kernel
theorem dX10_count__139 : decode cX10_count_ 139 = .ok (.ireturn, 1) := by decide +kernel
theorem dX10_count__140 : decode cX10_count_ 140 = .ok (.aload_n 0, 1) := by decide +kernel
theorem dX10_count__141 : decode cX10_count_ 141 = .ok (.getfield 13, 3) := by decide +kernel
theorem dX10_count__144 : decode cX10_count_ 144 = .ok (.ireturn, 1) := by decide +kernel
theorem dX10_count__145 : decode cX10_count_ 145 = .ok (.aload_n 0, 1) := by decide +kernel
theorem dX10_count__146 : decode cX10_count_ 146 = .ok (.getfield 221, 3) := by decide +kernel
theorem dX10_count__149 : decode cX10_count_ 149 = .ok (.ireturn, 1) := by decide +kernel
theorem dX10_count__150 : decode cX10_count_ 150 = .ok (.aload_n 0, 1) := by decide +kernel
theorem dX10_count__151 : decode cX10_count_ 151 = .ok (.getfield 170, 3) := by decide +kernel
theorem dX10_count__154 : decode cX10_count_ 154 = .ok (.ireturn, 1) := by decide +kernel
theorem dX10_count__155 : decode cX10_count_ 155 = .ok (.aload_n 0, 1) := by decide +kernel
theorem dX10_count__156 : decode cX10_count_ 156 = .ok (.getfield 177, 3) := by decide +kernel
theorem dX10_count__159 : decode cX10_count_ 159 = .ok (.ireturn, 1) := by decide +kernel
theorem dX10_count__160 : decode cX10_count_ 160 = .ok (.aload_n 0, 1) := by decide +kernel
theorem dX10_count__161 : decode cX10_count_ 161 = .ok (.getfield 180, 3) := by decide +kernel
theorem dX10_count__164 : decode cX10_count_ 164 = .ok (.ireturn, 1) := by decide +kernel
theorem dX10_count__165 : decode cX10_count_ 165 = .ok (.aload_n 0, 1) := by decide +kernel
theorem dX10_count__166 : decode cX10_count_ 166 = .ok (.getfield 190, 3) := by decide +kernel
theorem dX10_count__169 : decode cX10_count_ 169 = .ok (.ireturn, 1) := by decide +kernel
theorem dX10_count__170 : decode cX10_count_ 170 = .ok (.iconst (-1), 1) := by decide +kernel
theorem dX10_count__171 : decode cX10_count_ 171 = .ok (.ireturn, 1) := by decide +kernel
theorem dJ6_bitCount_0f7a4_0 : decode cJ6_bitCount_0f7a4 0 = .ok (.iload_n 0, 1) := by decide +kernel
theorem dJ6_bitCount_0f7a4_1 : decode cJ6_bitCount_0f7a4 1 = .ok (.iload_n 0, 1) := by decide +kernel
theorem dJ6_bitCount_0f7a4_2 : decode cJ6_bitCount_0f7a4 2 = .ok (.iconst 1, 1) := by decide +kernel
theorem dJ6_bitCount_0f7a4_3 : decode cJ6_bitCount_0f7a4 3 = .ok (.iushr, 1) := by decide +kernel
theorem dJ6_bitCount_0f7a4_4 : decode cJ6_bitCount_0f7a4 4 = .ok (.ldc_w 265, 3) := by decide +kernel
theorem dJ6_bitCount_0f7a4_7 : decode cJ6_bitCount_0f7a4 7 = .ok (.iand, 1) := by decide +kernel
theorem dJ6_bitCount_0f7a4_8 : decode cJ6_bitCount_0f7a4 8 = .ok (.isub, 1) := by decide +kernel
theorem dJ6_bitCount_0f7a4_9 : decode cJ6_bitCount_0f7a4 9 = .ok (.istore_n 0, 1) := by decide +kernel
theorem dJ6_bitCount_0f7a4_10 : decode cJ6_bitCount_0f7a4 10 = .ok (.iload_n 0, 1) := by decide +kernel
theorem dJ6_bitCount_0f7a4_11 : decode cJ6_bitCount_0f7a4 11 = .ok (.ldc_w 266, 3) := by decide +kernel
theorem dJ6_bitCount_0f7a4_14 : decode cJ6_bitCount_0f7a4 14 = .ok (.iand, 1) := by decide +kernel
theorem dJ6_bitCount_0f7a4_15 : decode cJ6_bitCount_0f7a4 15 = .ok (.iload_n 0, 1) := by decide +kernel
theorem dJ6_bitCount_0f7a4_16 : decode cJ6_bitCount_0f7a4 16 = .ok (.iconst 2, 1) := by decide +kernel
theorem dJ6_bitCount_0f7a4_17 : decode cJ6_bitCount_0f7a4 17 = .ok (.iushr, 1) := by decide +kernel
theorem dJ6_bitCount_0f7a4_18 : decode cJ6_bitCount_0f7a4 18 = .ok (.ldc_w 266, 3) := by decide +kernel
theorem dJ6_bitCount_0f7a4_21 : decode cJ6_bitCount_0f7a4 21 = .ok (.iand, 1) := by decide +kernel
theorem dJ6_bitCount_0f7a4_22 : decode cJ6_bitCount_0f7a4 22 = .ok (.iadd, 1) := by decide +kernel
theorem dJ6_bitCount_0f7a4_23 : decode cJ6_bitCount_0f7a4 23 = .ok (.istore_n 0, 1) := by decide +kernel
theorem dJ6_bitCount_0f7a4_24 : decode cJ6_bitCount_0f7a4 24 = .ok (.iload_n 0, 1) := by decide +kernel
theorem dJ6_bitCount_0f7a4_25 : decode cJ6_bitCount_0f7a4 25 = .ok (.iload_n 0, 1) := by decide +kernel
theorem dJ6_bitCount_0f7a4_26 : decode cJ6_bitCount_0f7a4 26 = .ok (.iconst 4, 1) := by decide +kernel
theorem dJ6_bitCount_0f7a4_27 : decode cJ6_bitCount_0f7a4 27 = .ok (.iushr, 1) := by decide +kernel
theorem dJ6_bitCount_0f7a4_28 : decode cJ6_bitCount_0f7a4 28 = .ok (.iadd, 1) := by decide +kernel
theorem dJ6_bitCount_0f7a4_29 : decode cJ6_bitCount_0f7a4 29 = .ok (.ldc_w 267, 3) := by decide +kernel
theorem dJ6_bitCount_0f7a4_32 : decode cJ6_bitCount_0f7a4 32 = .ok (.iand, 1) := by decide +kernel
theorem dJ6_bitCount_0f7a4_33 : decode cJ6_bitCount_0f7a4 33 = .ok (.istore_n 0, 1) := by decide +kernel
theorem dJ6_bitCount_0f7a4_34 : decode cJ6_bitCount_0f7a4 34 = .ok (.iload_n 0, 1) := by decide +kernel
theorem dJ6_bitCount_0f7a4_35 : decode cJ6_bitCount_0f7a4 35 = .ok (.iload_n 0, 1) := by decide +kernel
theorem dJ6_bitCount_0f7a4_36 : decode cJ6_bitCount_0f7a4 36 = .ok (.bipush 8, 2) := by decide +kernel
theorem dJ6_bitCount_0f7a4_38 : decode cJ6_bitCount_0f7a4 38 = .ok (.iushr, 1) := by decide +kernel
theorem dJ6_bitCount_0f7a4_39 : decode cJ6_bitCount_0f7a4 39 = .ok (.iadd, 1) := by decide +kernel
theorem dJ6_bitCount_0f7a4_40 : decode cJ6_bitCount_0f7a4 40 = .ok (.istore_n 0, 1) := by decide +kernel
theorem dJ6_bitCount_0f7a4_41 : decode cJ6_bitCount_0f7a4 41 = .ok (.iload_n 0, 1) := by decide +kernel
theorem dJ6_bitCount_0f7a4_42 : decode cJ6_bitCount_0f7a4 42 = .ok (.iload_n 0, 1) := by decide +kernel
theorem dJ6_bitCount_0f7a4_43 : decode cJ6_bitCount_0f7a4 43 = .ok (.bipush 16, 2) := by decide +kernel
theorem dJ6_bitCount_0f7a4_45 : decode cJ6_bitCount_0f7a4 45 = .ok (.iushr, 1) := by decide +kernel
theorem dJ6_bitCount_0f7a4_46 : decode cJ6_bitCount_0f7a4 46 = .ok (.iadd, 1) := by decide +kernel
theorem dJ6_bitCount_0f7a4_47 : decode cJ6_bitCount_0f7a4 47 = .ok (.istore_n 0, 1) := by decide +kernel
theorem dJ6_bitCount_0f7a4_48 : decode cJ6_bitCount_0f7a4 48 = .ok (.iload_n 0, 1) := by decide +kernel
theorem dJ6_bitCount_0f7a4_49 : decode cJ6_bitCount_0f7a4 49 = .ok (.bipush 63, 2) := by decide +kernel
theorem dJ6_bitCount_0f7a4_51 : decode cJ6_bitCount_0f7a4 51 = .ok (.iand, 1) := by decide +kernel
theorem dJ6_bitCount_0f7a4_52 : decode cJ6_bitCount_0f7a4 52 = .ok (.ireturn, 1) := by decide +kernel
theorem dJ9_max_7cf53_0 : decode cJ9_max_7cf53 0 = .ok (.iload_n 0, 1) := by decide +kernel
theorem dJ9_max_7cf53_1 : decode cJ9_max_7cf53 1 = .ok (.iload_n 1, 1) := by decide +kernel
theorem dJ9_max_7cf53_2 : decode cJ9_max_7cf53 2 = .ok (.if_icmp .lt 7, 3) := by decide +kernel
theorem dJ9_max_7cf53_5 : decode cJ9_max_7cf53 5 = .ok (.iload_n 0, 1) := by decide +kernel
theorem dJ9_max_7cf53_6 : decode cJ9_max_7cf53 6 = .ok (.goto 4, 3) := by decide +kernel
theorem dJ9_max_7cf53_9 : decode cJ9_max_7cf53 9 = .ok (.iload_n 1, 1) := by decide +kernel
theorem dJ9_max_7cf53_10 : decode cJ9_max_7cf53 10 = .ok (.ireturn, 1) := by decide +kernel
abbrev vwCl : List vw_C := [(RX0, TX0, 1), (RX1, TX1, 1), (RX2, TX2, 8), (RX3, TX3, 13), (RX4, TX4, 1), (RX5, TX5, 7), (RX6, TX6, 6), (RX7, TX7, 10), (RX8, TX8, 3), (RX9, TX9, 4), (RX10, TX10, 45)]

