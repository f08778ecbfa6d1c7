theorem dX10_got_36 : decode cX10_got 36 = .ok (.aload_n 0, 1) := by decide +kernel
theorem dX10_got_37 : decode cX10_got 37 = .ok (.getfield 57, 3) := by decide +kernel
theorem dX10_got_40 : decode cX10_got 40 = .ok (.iload_n 1, 1) := by decide +kernel
theorem dX10_got_41 : decode cX10_got 41 = .ok (.iload_n 2, 1) := by decide +kernel
theorem dX10_got_42 : decode cX10_got 42 = .ok (.iload_n 3, 1) := by decide +kernel
theorem dX10_got_43 : decode cX10_got 43 = .ok (.invokestatic 163, 3) := by decide +kernel
theorem dX10_got_46 : decode cX10_got 46 = .ok (.iaload, 1) := by decide +kernel
theorem dX10_got_47 : decode cX10_got 47 = .ok (.goto 4, 3) := by decide +kernel
theorem dX10_got_50 : decode cX10_got 50 = .ok (.iconst 0, 1) := by decide +kernel
theorem dX10_got_51 : decode cX10_got 51 = .ok (.ireturn, 1) := by decide +kernel
set_option maxRecDepth 20000 in
theorem ggX10_rare_X10_isPeer : GoodIn wsX10_rare wsX10_isPeer := goodIn_r _ [6, 7, 8, 9, 5, 10, 37, 38, 39, 40, 41, 42, 43, 44, 45, 46, 47, 48, 49, 50, 51, 52, 53, 54, 55, 56, 57, 58, 59, 60, 61, 62, 63, 64, 65, 66, 67, 68, 69, 70, 71, 72, 73, 74, 75, 76, 77, 78, 79, 80, 81] (by decide +kernel) (by decide +kernel)
set_option maxRecDepth 20000 in
theorem gX10_rare_X10_isPeer : GoodIn wsX10_rare (wsV RX10 147 RX10 yX10_isPeer wsX10_isPeer) := goodIn_app (goodIn_of _ (by decide +kernel)) ggX10_rare_X10_isPeer
set_option maxRecDepth 20000 in
theorem ggX10_rare_X10_isBlock : GoodIn wsX10_rare wsX10_isBlock := goodIn_r _ [14, 15, 16, 8, 9, 5, 10, 37, 38, 39, 40, 41, 42, 43, 44, 45, 46, 47, 48, 49, 50, 51, 52, 53, 54, 55, 56, 57, 58, 59, 60, 61, 62, 63, 64, 65, 66, 67, 68, 69, 70, 71, 72, 73, 74, 75, 76, 77, 78, 79, 80, 81] (by decide +kernel) (by decide +kernel)
set_option maxRecDepth 20000 in
theorem gX10_rare_X10_isBlock : GoodIn wsX10_rare (wsV RX10 139 RX10 yX10_isBlock wsX10_isBlock) := goodIn_app (goodIn_of _ (by decide +kernel)) ggX10_rare_X10_isBlock
set_option maxRecDepth 20000 in
theorem ggX10_rare_X10_tellers : GoodIn wsX10_rare wsX10_tellers := goodIn_r _ [20, 7, 21, 22, 23, 5, 24, 25, 26, 27, 28, 29, 30, 31, 32, 33, 34, 35, 36, 37, 38, 39, 40, 41, 42, 43, 44, 45, 46, 47, 48, 49, 50, 51, 52, 53, 54, 55, 56, 57, 58, 59, 60, 61, 62, 63, 64, 65, 66, 67, 68, 69, 70, 71, 72, 73, 74, 75, 76, 77, 78, 79, 80, 81] (by decide +kernel) (by decide +kernel)
set_option maxRecDepth 20000 in
theorem gX10_rare_X10_tellers : GoodIn wsX10_rare (wsV RX10 238 RX10 yX10_tellers wsX10_tellers) := goodIn_app (goodIn_of _ (by decide +kernel)) ggX10_rare_X10_tellers
theorem dX10_rare_0 : decode cX10_rare 0 = .ok (.aload_n 0, 1) := by decide +kernel
theorem dX10_rare_1 : decode cX10_rare 1 = .ok (.iconst 0, 1) := by decide +kernel
theorem dX10_rare_2 : decode cX10_rare 2 = .ok (.putfield 120, 3) := by decide +kernel
theorem dX10_rare_5 : decode cX10_rare 5 = .ok (.aload_n 0, 1) := by decide +kernel
theorem dX10_rare_6 : decode cX10_rare 6 = .ok (.iload_n 1, 1) := by decide +kernel
theorem dX10_rare_7 : decode cX10_rare 7 = .ok (.invokevirtual 147, 3) := by decide +kernel
theorem dX10_rare_10 : decode cX10_rare 10 = .ok (.ifCond .eq 21, 3) := by decide +kernel
theorem dX10_rare_13 : decode cX10_rare 13 = .ok (.aload_n 0, 1) := by decide +kernel
theorem dX10_rare_14 : decode cX10_rare 14 = .ok (.iload_n 2, 1) := by decide +kernel
theorem dX10_rare_15 : decode cX10_rare 15 = .ok (.iconst 0, 1) := by decide +kernel
theorem dX10_rare_16 : decode cX10_rare 16 = .ok (.invokevirtual 139, 3) := by decide +kernel
theorem dX10_rare_19 : decode cX10_rare 19 = .ok (.ifCond .eq 12, 3) := by decide +kernel
theorem dX10_rare_22 : decode cX10_rare 22 = .ok (.aload_n 0, 1) := by decide +kernel
theorem dX10_rare_23 : decode cX10_rare 23 = .ok (.iload_n 1, 1) := by decide +kernel
theorem dX10_rare_24 : decode cX10_rare 24 = .ok (.iload_n 2, 1) := by decide +kernel
theorem dX10_rare_25 : decode cX10_rare 25 = .ok (.invokevirtual 238, 3) := by decide +kernel
theorem dX10_rare_28 : decode cX10_rare 28 = .ok (.goto 4, 3) := by decide +kernel
theorem dX10_rare_31 : decode cX10_rare 31 = .ok (.iconst (-1), 1) := by decide +kernel
theorem dX10_rare_32 : decode cX10_rare 32 = .ok (.ireturn, 1) := by decide +kernel
set_option maxRecDepth 20000 in
theorem ggX10_pair_X10_isTwo : GoodIn wsX10_pair wsX10_isTwo := goodIn_r _ [11, 12, 13, 14, 10, 15, 16, 17, 18, 19, 58, 59, 60, 61, 62, 63, 64, 65, 66, 67, 68, 69, 70, 71, 72, 73, 74, 75, 76, 77, 78, 79, 80, 81, 82, 83, 84, 85, 86, 87, 88, 89, 90, 91, 92, 93, 94, 95, 96, 97, 98, 99, 100, 101, 102] (by decide +kernel) (by decide +kernel)
set_option maxRecDepth 20000 in
theorem gX10_pair_X10_isTwo : GoodIn wsX10_pair (wsV RX10 167 RX10 yX10_isTwo wsX10_isTwo) := goodIn_app (goodIn_of _ (by decide +kernel)) ggX10_pair_X10_isTwo
set_option maxRecDepth 20000 in
theorem ggX10_pair_X10_two : GoodIn wsX10_pair wsX10_two := goodIn_r _ [22] (by decide +kernel) (by decide +kernel)
set_option maxRecDepth 20000 in
theorem gX10_pair_X10_two : GoodIn wsX10_pair (va_wsS RX10 151 yX10_two wsX10_two) := goodIn_app (goodIn_of _ (by decide +kernel)) ggX10_pair_X10_two
set_option maxRecDepth 20000 in
theorem ggX10_pair_X10_isNear : GoodIn wsX10_pair wsX10_isNear := goodIn_r _ [26, 2, 27, 5, 20, 21, 10, 22, 58, 59, 60, 61, 62, 63, 64, 65, 66, 67, 68, 69, 70, 71, 72, 73, 74, 75, 76, 77, 78, 79, 80, 81, 82, 83, 84, 85, 86, 87, 88, 89, 90, 91, 92, 93, 94, 95, 96, 97, 98, 99, 100, 101, 102] (by decide +kernel) (by decide +kernel)
set_option maxRecDepth 20000 in
theorem gX10_pair_X10_isNear : GoodIn wsX10_pair (wsV RX10 154 RX10 yX10_isNear wsX10_isNear) := goodIn_app (goodIn_of _ (by decide +kernel)) ggX10_pair_X10_isNear
set_option maxRecDepth 20000 in
theorem ggX10_pair_X10_wants : GoodIn wsX10_pair wsX10_wants := goodIn_r _ [31, 32, 33, 23, 24, 25, 10, 26, 2, 27, 5, 20, 21, 22, 34, 35, 36, 37, 38, 58, 59, 60, 61, 62, 63, 64, 65, 66, 67, 68, 69, 70, 71, 72, 73, 74, 75, 76, 77, 78, 79, 80, 81, 82, 83, 84, 85, 86, 87, 88, 89, 90, 91, 92, 93, 94, 95, 96, 97, 98, 99, 100, 101, 102] (by decide +kernel) (by decide +kernel)
set_option maxRecDepth 20000 in
theorem gX10_pair_X10_wants : GoodIn wsX10_pair (wsV RX10 209 RX10 yX10_wants wsX10_wants) := goodIn_app (goodIn_of _ (by decide +kernel)) ggX10_pair_X10_wants
set_option maxRecDepth 20000 in
theorem ggX10_pair_X10_isOpenTo : GoodIn wsX10_pair wsX10_isOpenTo := goodIn_r _ [42, 43, 20, 21, 10, 22, 23, 24, 25, 26, 2, 27, 5, 58, 59, 60, 61, 62, 63, 64, 65, 66, 67, 68, 69, 70, 71, 72, 73, 74, 75, 76, 77, 78, 79, 80, 81, 82, 83, 84, 85, 86, 87, 88, 89, 90, 91, 92, 93, 94, 95, 96, 97, 98, 99, 100, 101, 102] (by decide +kernel) (by decide +kernel)
set_option maxRecDepth 20000 in
theorem gX10_pair_X10_isOpenTo : GoodIn wsX10_pair (wsV RX10 264 RX10 yX10_isOpenTo wsX10_isOpenTo) := goodIn_app (goodIn_of _ (by decide +kernel)) ggX10_pair_X10_isOpenTo
set_option maxRecDepth 20000 in
theorem ggX10_pair_X10_late : GoodIn wsX10_pair wsX10_late := goodIn_r _ [47, 48, 49, 50, 51, 52, 10, 53, 32, 54, 55, 56, 57, 33, 20, 21, 22, 58, 59, 60, 61, 62, 63, 64, 65, 66, 67, 68, 69, 70, 71, 72, 73, 74, 75, 76, 77, 78, 79, 80, 81, 82, 83, 84, 85, 86, 87, 88, 89, 90, 91, 92, 93, 94, 95, 96, 97, 98, 99, 100, 101, 102] (by decide +kernel) (by decide +kernel)
set_option maxRecDepth 20000 in
theorem gX10_pair_X10_late : GoodIn wsX10_pair (wsV RX10 212 RX10 yX10_late wsX10_late) := goodIn_app (goodIn_of _ (by decide +kernel)) ggX10_pair_X10_late
theorem dX10_pair_0 : decode cX10_pair 0 = .ok (.aload_n 0, 1) := by decide +kernel
theorem dX10_pair_1 : decode cX10_pair 1 = .ok (.iconst 0, 1) := by decide +kernel
theorem dX10_pair_2 : decode cX10_pair 2 = .ok (.putfield 120, 3) := by decide +kernel
theorem dX10_pair_5 : decode cX10_pair 5 = .ok (.aload_n 0, 1) := by decide +kernel
theorem dX10_pair_6 : decode cX10_pair 6 = .ok (.iload_n 1, 1) := by decide +kernel
theorem dX10_pair_7 : decode cX10_pair 7 = .ok (.iload_n 2, 1) := by decide +kernel
theorem dX10_pair_8 : decode cX10_pair 8 = .ok (.invokevirtual 167, 3) := by decide +kernel
theorem dX10_pair_11 : decode cX10_pair 11 = .ok (.ifCond .ne 5, 3) := by decide +kernel
theorem dX10_pair_14 : decode cX10_pair 14 = .ok (.iconst (-1), 1) := by decide +kernel
theorem dX10_pair_15 : decode cX10_pair 15 = .ok (.ireturn, 1) := by decide +kernel
theorem dX10_pair_16 : decode cX10_pair 16 = .ok (.iload_n 3, 1) := by decide +kernel
theorem dX10_pair_17 : decode cX10_pair 17 = .ok (.tableswitch 188 0 8 #[51, 70, 85, 100, 115, 122, 133, 144, 163], 51) := by decide +kernel
theorem dX10_pair_68 : decode cX10_pair 68 = .ok (.aload_n 0, 1) := by decide +kernel
theorem dX10_pair_69 : decode cX10_pair 69 = .ok (.getfield 63, 3) := by decide +kernel
theorem dX10_pair_72 : decode cX10_pair 72 = .ok (.iload_n 1, 1) := by decide +kernel
theorem dX10_pair_73 : decode cX10_pair 73 = .ok (.iload_n 2, 1) := by decide +kernel
theorem dX10_pair_74 : decode cX10_pair 74 = .ok (.invokestatic 151, 3) := by decide +kernel
theorem dX10_pair_77 : decode cX10_pair 77 = .ok (.baload, 1) := by decide +kernel
theorem dX10_pair_78 : decode cX10_pair 78 = .ok (.ifCond .eq 7, 3) := by decide +kernel
theorem dX10_pair_81 : decode cX10_pair 81 = .ok (.iconst 1, 1) := by decide +kernel
theorem dX10_pair_82 : decode cX10_pair 82 = .ok (.goto 4, 3) := by decide +kernel
theorem dX10_pair_85 : decode cX10_pair 85 = .ok (.iconst 0, 1) := by decide +kernel
theorem dX10_pair_86 : decode cX10_pair 86 = .ok (.ireturn, 1) := by decide +kernel
theorem dX10_pair_87 : decode cX10_pair 87 = .ok (.aload_n 0, 1) := by decide +kernel
theorem dX10_pair_88 : decode cX10_pair 88 = .ok (.iload_n 1, 1) := by decide +kernel
theorem dX10_pair_89 : decode cX10_pair 89 = .ok (.iload_n 2, 1) := by decide +kernel
theorem dX10_pair_90 : decode cX10_pair 90 = .ok (.invokevirtual 154, 3) := by decide +kernel
theorem dX10_pair_93 : decode cX10_pair 93 = .ok (.ifCond .eq 7, 3) := by decide +kernel
theorem dX10_pair_96 : decode cX10_pair 96 = .ok (.iconst 1, 1) := by decide +kernel
theorem dX10_pair_97 : decode cX10_pair 97 = .ok (.goto 4, 3) := by decide +kernel
theorem dX10_pair_100 : decode cX10_pair 100 = .ok (.iconst 0, 1) := by decide +kernel
theorem dX10_pair_101 : decode cX10_pair 101 = .ok (.ireturn, 1) := by decide +kernel
theorem dX10_pair_102 : decode cX10_pair 102 = .ok (.aload_n 0, 1) := by decide +kernel
theorem dX10_pair_103 : decode cX10_pair 103 = .ok (.iload_n 2, 1) := by decide +kernel
theorem dX10_pair_104 : decode cX10_pair 104 = .ok (.iload_n 1, 1) := by decide +kernel
theorem dX10_pair_105 : decode cX10_pair 105 = .ok (.invokevirtual 209, 3) := by decide +kernel
theorem dX10_pair_108 : decode cX10_pair 108 = .ok (.ifCond .eq 7, 3) := by decide +kernel
theorem dX10_pair_111 : decode cX10_pair 111 = .ok (.iconst 1, 1) := by decide +kernel
theorem dX10_pair_112 : decode cX10_pair 112 = .ok (.goto 4, 3) := by decide +kernel
theorem dX10_pair_115 : decode cX10_pair 115 = .ok (.iconst 0, 1) := by decide +kernel
theorem dX10_pair_116 : decode cX10_pair 116 = .ok (.ireturn, 1) := by decide +kernel
theorem dX10_pair_117 : decode cX10_pair 117 = .ok (.aload_n 0, 1) := by decide +kernel
theorem dX10_pair_118 : decode cX10_pair 118 = .ok (.iload_n 1, 1) := by decide +kernel
theorem dX10_pair_119 : decode cX10_pair 119 = .ok (.iload_n 2, 1) := by decide +kernel
theorem dX10_pair_120 : decode cX10_pair 120 = .ok (.invokevirtual 264, 3) := by decide +kernel
theorem dX10_pair_123 : decode cX10_pair 123 = .ok (.ifCond .eq 7, 3) := by decide +kernel
theorem dX10_pair_126 : decode cX10_pair 126 = .ok (.iconst 1, 1) := by decide +kernel
theorem dX10_pair_127 : decode cX10_pair 127 = .ok (.goto 4, 3) := by decide +kernel
theorem dX10_pair_130 : decode cX10_pair 130 = .ok (.iconst 0, 1) := by decide +kernel
theorem dX10_pair_131 : decode cX10_pair 131 = .ok (.ireturn, 1) := by decide +kernel
theorem dX10_pair_132 : decode cX10_pair 132 = .ok (.aload_n 0, 1) := by decide +kernel
theorem dX10_pair_133 : decode cX10_pair 133 = .ok (.iload_n 1, 1) := by decide +kernel
theorem dX10_pair_134 : decode cX10_pair 134 = .ok (.iload_n 2, 1) := by decide +kernel
theorem dX10_pair_135 : decode cX10_pair 135 = .ok (.invokevirtual 212, 3) := by decide +kernel
theorem dX10_pair_138 : decode cX10_pair 138 = .ok (.ireturn, 1) := by decide +kernel
theorem dX10_pair_139 : decode cX10_pair 139 = .ok (.aload_n 0, 1) := by decide +kernel
theorem dX10_pair_140 : decode cX10_pair 140 = .ok (.getfield 75, 3) := by decide +kernel
theorem dX10_pair_143 : decode cX10_pair 143 = .ok (.iload_n 1, 1) := by decide +kernel
theorem dX10_pair_144 : decode cX10_pair 144 = .ok (.iload_n 2, 1) := by decide +kernel
theorem dX10_pair_145 : decode cX10_pair 145 = .ok (.invokestatic 151, 3) := by decide +kernel
theorem dX10_pair_148 : decode cX10_pair 148 = .ok (.iaload, 1) := by decide +kernel
theorem dX10_pair_149 : decode cX10_pair 149 = .ok (.ireturn, 1) := by decide +kernel
theorem dX10_pair_150 : decode cX10_pair 150 = .ok (.aload_n 0, 1) := by decide +kernel
theorem dX10_pair_151 : decode cX10_pair 151 = .ok (.getfield 72, 3) := by decide +kernel
theorem dX10_pair_154 : decode cX10_pair 154 = .ok (.iload_n 1, 1) := by decide +kernel
theorem dX10_pair_155 : decode cX10_pair 155 = .ok (.iload_n 2, 1) := by decide +kernel
theorem dX10_pair_156 : decode cX10_pair 156 = .ok (.invokestatic 151, 3) := by decide +kernel
theorem dX10_pair_159 : decode cX10_pair 159 = .ok (.iaload, 1) := by decide +kernel
theorem dX10_pair_160 : decode cX10_pair 160 = .ok (.ireturn, 1) := by decide +kernel
theorem dX10_pair_161 : decode cX10_pair 161 = .ok (.aload_n 0, 1) := by decide +kernel
theorem dX10_pair_162 : decode cX10_pair 162 = .ok (.getfield 69, 3) := by decide +kernel
theorem dX10_pair_165 : decode cX10_pair 165 = .ok (.iload_n 1, 1) := by decide +kernel
theorem dX10_pair_166 : decode cX10_pair 166 = .ok (.iload_n 2, 1) := by decide +kernel
theorem dX10_pair_167 : decode cX10_pair 167 = .ok (.invokestatic 151, 3) := by decide +kernel
theorem dX10_pair_170 : decode cX10_pair 170 = .ok (.baload, 1) := by decide +kernel
theorem dX10_pair_171 : decode cX10_pair 171 = .ok (.ifCond .eq 7, 3) := by decide +kernel
theorem dX10_pair_174 : decode cX10_pair 174 = .ok (.iconst 1, 1) := by decide +kernel
theorem dX10_pair_175 : decode cX10_pair 175 = .ok (.goto 4, 3) := by decide +kernel
theorem dX10_pair_178 : decode cX10_pair 178 = .ok (.iconst 0, 1) := by decide +kernel
theorem dX10_pair_179 : decode cX10_pair 179 = .ok (.ireturn, 1) := by decide +kernel
theorem dX10_pair_180 : decode cX10_pair 180 = .ok (.aload_n 0, 1) := by decide +kernel
theorem dX10_pair_181 : decode cX10_pair 181 = .ok (.getfield 84, 3) := by decide +kernel
theorem dX10_pair_184 : decode cX10_pair 184 = .ok (.iload_n 1, 1) := by decide +kernel
theorem dX10_pair_185 : decode cX10_pair 185 = .ok (.iaload, 1) := by decide +kernel
theorem dX10_pair_186 : decode cX10_pair 186 = .ok (.iload_n 2, 1) := by decide +kernel
theorem dX10_pair_187 : decode cX10_pair 187 = .ok (.if_icmp .ne 16, 3) := by decide +kernel
theorem dX10_pair_190 : decode cX10_pair 190 = .ok (.aload_n 0, 1) := by decide +kernel
theorem dX10_pair_191 : decode cX10_pair 191 = .ok (.iload_n 1, 1) := by decide +kernel
theorem dX10_pair_192 : decode cX10_pair 192 = .ok (.iload_n 2, 1) := by decide +kernel
theorem dX10_pair_193 : decode cX10_pair 193 = .ok (.invokevirtual 264, 3) := by decide +kernel
theorem dX10_pair_196 : decode cX10_pair 196 = .ok (.ifCond .eq 7, 3) := by decide +kernel
theorem dX10_pair_199 : decode cX10_pair 199 = .ok (.iconst 1, 1) := by decide +kernel
theorem dX10_pair_200 : decode cX10_pair 200 = .ok (.goto 4, 3) := by decide +kernel
theorem dX10_pair_203 : decode cX10_pair 203 = .ok (.iconst 0, 1) := by decide +kernel
theorem dX10_pair_204 : decode cX10_pair 204 = .ok (.ireturn, 1) := by decide +kernel
theorem dX10_pair_205 : decode cX10_pair 205 = .ok (.iconst (-1), 1) := by decide +kernel
theorem dX10_pair_206 : decode cX10_pair 206 = .ok (.ireturn, 1) := by decide +kernel
theorem dX10_owners_0 : decode cX10_owners 0 = .ok (.iconst 0, 1) := by decide +kernel
theorem dX10_owners_1 : decode cX10_owners 1 = .ok (.istore_n 3, 1) := by decide +kernel
theorem dX10_owners_2 : decode cX10_owners 2 = .ok (.iconst 0, 1) := by decide +kernel
theorem dX10_owners_3 : decode cX10_owners 3 = .ok (.istore 4, 2) := by decide +kernel
theorem dX10_owners_5 : decode cX10_owners 5 = .ok (.iload 4, 2) := by decide +kernel
theorem dX10_owners_7 : decode cX10_owners 7 = .ok (.aload_n 0, 1) := by decide +kernel
theorem dX10_owners_8 : decode cX10_owners 8 = .ok (.getfield 136, 3) := by decide +kernel
theorem dX10_owners_11 : decode cX10_owners 11 = .ok (.if_icmp .ge 48, 3) := by decide +kernel
theorem dX10_owners_14 : decode cX10_owners 14 = .ok (.iload_n 3, 1) := by decide +kernel
theorem dX10_owners_15 : decode cX10_owners 15 = .ok (.iload 4, 2) := by decide +kernel
theorem dX10_owners_17 : decode cX10_owners 17 = .ok (.iload_n 2, 1) := by decide +kernel
theorem dX10_owners_18 : decode cX10_owners 18 = .ok (.if_icmp .eq 32, 3) := by decide +kernel
theorem dX10_owners_21 : decode cX10_owners 21 = .ok (.aload_n 0, 1) := by decide +kernel
theorem dX10_owners_22 : decode cX10_owners 22 = .ok (.getfield 26, 3) := by decide +kernel
theorem dX10_owners_25 : decode cX10_owners 25 = .ok (.iload 4, 2) := by decide +kernel
theorem dX10_owners_27 : decode cX10_owners 27 = .ok (.baload, 1) := by decide +kernel
theorem dX10_owners_28 : decode cX10_owners 28 = .ok (.ifCond .eq 22, 3) := by decide +kernel
theorem dX10_owners_31 : decode cX10_owners 31 = .ok (.aload_n 0, 1) := by decide +kernel
theorem dX10_owners_32 : decode cX10_owners 32 = .ok (.getfield 48, 3) := by decide +kernel
theorem dX10_owners_35 : decode cX10_owners 35 = .ok (.bipush 24, 2) := by decide +kernel
theorem dX10_owners_37 : decode cX10_owners 37 = .ok (.iload 4, 2) := by decide +kernel
theorem dX10_owners_39 : decode cX10_owners 39 = .ok (.imul, 1) := by decide +kernel
theorem dX10_owners_40 : decode cX10_owners 40 = .ok (.iload_n 1, 1) := by decide +kernel
theorem dX10_owners_41 : decode cX10_owners 41 = .ok (.iadd, 1) := by decide +kernel
