set_option maxRecDepth 20000 in
theorem gX9_rare_X2_isMember : GoodIn wsX9_rare (wsV RX9 77 RX2 yX2_isMember wsX2_isMember) := goodIn_app (goodIn_of _ (by decide +kernel)) ggX9_rare_X2_isMember
set_option maxRecDepth 20000 in
theorem ggX9_rare_X8_isPiece : GoodIn wsX9_rare wsX8_isPiece := goodIn_r _ [13, 14, 60, 61, 62] (by decide +kernel) (by decide +kernel)
set_option maxRecDepth 20000 in
theorem gX9_rare_X8_isPiece : GoodIn wsX9_rare (wsV RX9 65 RX8 yX8_isPiece wsX8_isPiece) := goodIn_app (goodIn_of _ (by decide +kernel)) ggX9_rare_X8_isPiece
set_option maxRecDepth 20000 in
theorem ggX9_rare_X2_nearTo : GoodIn wsX9_rare wsX2_nearTo := goodIn_r _ [18, 19, 20, 21, 22, 23, 24, 25, 26, 27, 52, 53, 54, 55, 56, 57, 58, 59, 63, 64, 65, 66, 67, 68, 69, 70, 71, 72, 73, 74, 75, 76, 77, 78, 79, 80, 81, 82, 83, 84, 85] (by decide +kernel) (by decide +kernel)
set_option maxRecDepth 20000 in
theorem gX9_rare_X2_nearTo : GoodIn wsX9_rare (wsV RX9 200 RX2 yX2_nearTo wsX2_nearTo) := goodIn_app (goodIn_of _ (by decide +kernel)) ggX9_rare_X2_nearTo
set_option maxRecDepth 20000 in
theorem ggX9_rare_X2_tellersAmong : GoodIn wsX9_rare wsX2_tellersAmong := goodIn_r _ [31, 8, 19, 25, 26, 27, 32, 33, 34, 35, 36, 37, 38, 39, 40, 52, 53, 54, 55, 56, 57, 58, 59, 63, 64, 65, 66, 67, 68, 69, 70, 71, 72, 73, 74, 75, 86, 87, 88, 89, 90, 91] (by decide +kernel) (by decide +kernel)
set_option maxRecDepth 20000 in
theorem gX9_rare_X2_tellersAmong : GoodIn wsX9_rare (wsV RX9 203 RX2 yX2_tellersAmong wsX2_tellersAmong) := goodIn_app (goodIn_of _ (by decide +kernel)) ggX9_rare_X2_tellersAmong
set_option maxRecDepth 20000 in
theorem ggX9_rare_J6_bitCount_0f7a4 : GoodIn wsX9_rare wsJ6_bitCount_0f7a4 := goodIn_r _ [44, 45, 46, 47] (by decide +kernel) (by decide +kernel)
set_option maxRecDepth 20000 in
theorem gX9_rare_J6_bitCount_0f7a4 : GoodIn wsX9_rare (va_wsS RX9 145 yJ6_bitCount_0f7a4 wsJ6_bitCount_0f7a4) := goodIn_app (goodIn_of _ (by decide +kernel)) ggX9_rare_J6_bitCount_0f7a4
theorem dX9_rare_0 : decode cX9_rare 0 = .ok (.aload_n 0, 1) := by decide +kernel
theorem dX9_rare_1 : decode cX9_rare 1 = .ok (.getfield 10, 3) := by decide +kernel
theorem dX9_rare_4 : decode cX9_rare 4 = .ok (.iload_n 1, 1) := by decide +kernel
theorem dX9_rare_5 : decode cX9_rare 5 = .ok (.invokevirtual 77, 3) := by decide +kernel
theorem dX9_rare_8 : decode cX9_rare 8 = .ok (.ifCond .eq 17, 3) := by decide +kernel
theorem dX9_rare_11 : decode cX9_rare 11 = .ok (.aload_n 0, 1) := by decide +kernel
theorem dX9_rare_12 : decode cX9_rare 12 = .ok (.getfield 10, 3) := by decide +kernel
theorem dX9_rare_15 : decode cX9_rare 15 = .ok (.getfield 47, 3) := by decide +kernel
theorem dX9_rare_18 : decode cX9_rare 18 = .ok (.iload_n 2, 1) := by decide +kernel
theorem dX9_rare_19 : decode cX9_rare 19 = .ok (.invokevirtual 65, 3) := by decide +kernel
theorem dX9_rare_22 : decode cX9_rare 22 = .ok (.ifCond .ne 5, 3) := by decide +kernel
theorem dX9_rare_25 : decode cX9_rare 25 = .ok (.iconst (-1), 1) := by decide +kernel
theorem dX9_rare_26 : decode cX9_rare 26 = .ok (.ireturn, 1) := by decide +kernel
theorem dX9_rare_27 : decode cX9_rare 27 = .ok (.aload_n 0, 1) := by decide +kernel
theorem dX9_rare_28 : decode cX9_rare 28 = .ok (.getfield 10, 3) := by decide +kernel
theorem dX9_rare_31 : decode cX9_rare 31 = .ok (.aload_n 0, 1) := by decide +kernel
theorem dX9_rare_32 : decode cX9_rare 32 = .ok (.getfield 10, 3) := by decide +kernel
theorem dX9_rare_35 : decode cX9_rare 35 = .ok (.iload_n 1, 1) := by decide +kernel
theorem dX9_rare_36 : decode cX9_rare 36 = .ok (.invokevirtual 200, 3) := by decide +kernel
theorem dX9_rare_39 : decode cX9_rare 39 = .ok (.iload_n 2, 1) := by decide +kernel
theorem dX9_rare_40 : decode cX9_rare 40 = .ok (.invokevirtual 203, 3) := by decide +kernel
theorem dX9_rare_43 : decode cX9_rare 43 = .ok (.invokestatic 145, 3) := by decide +kernel
theorem dX9_rare_46 : decode cX9_rare 46 = .ok (.ireturn, 1) := by decide +kernel
set_option maxRecDepth 20000 in
theorem ggX9_pair_X2_areTwo : GoodIn wsX9_pair wsX2_areTwo := goodIn_r _ [14, 15, 16, 17, 13, 18, 19, 69, 70, 71, 72, 73, 74, 75, 76] (by decide +kernel) (by decide +kernel)
set_option maxRecDepth 20000 in
theorem gX9_pair_X2_areTwo : GoodIn wsX9_pair (wsV RX9 92 RX2 yX2_areTwo wsX2_areTwo) := goodIn_app (goodIn_of _ (by decide +kernel)) ggX9_pair_X2_areTwo
set_option maxRecDepth 20000 in
theorem ggX9_pair_X9_isIn : GoodIn wsX9_pair wsX9_isIn := goodIn_r _ [23] (by decide +kernel) (by decide +kernel)
set_option maxRecDepth 20000 in
theorem gX9_pair_X9_isIn : GoodIn wsX9_pair (va_wsS RX9 104 yX9_isIn wsX9_isIn) := goodIn_app (goodIn_of _ (by decide +kernel)) ggX9_pair_X9_isIn
set_option maxRecDepth 20000 in
theorem ggX9_pair_X9_oneIf : GoodIn wsX9_pair wsX9_oneIf := goodIn_r _ [26] (by decide +kernel) (by decide +kernel)
set_option maxRecDepth 20000 in
theorem gX9_pair_X9_oneIf : GoodIn wsX9_pair (va_wsS RX9 132 yX9_oneIf wsX9_oneIf) := goodIn_app (goodIn_of _ (by decide +kernel)) ggX9_pair_X9_oneIf
set_option maxRecDepth 20000 in
theorem ggX9_pair_X2_nearTo : GoodIn wsX9_pair wsX2_nearTo := goodIn_r _ [30, 31, 32, 33, 34, 35, 36, 21, 22, 23, 69, 70, 71, 72, 73, 74, 75, 76, 77, 78, 79, 80, 81, 82, 83, 84, 85, 86, 87, 88, 89, 90, 91, 92, 93, 94, 95, 96, 97, 98, 99] (by decide +kernel) (by decide +kernel)
set_option maxRecDepth 20000 in
theorem gX9_pair_X2_nearTo : GoodIn wsX9_pair (wsV RX9 200 RX2 yX2_nearTo wsX2_nearTo) := goodIn_app (goodIn_of _ (by decide +kernel)) ggX9_pair_X2_nearTo
set_option maxRecDepth 20000 in
theorem ggX9_pair_X2_wantersOf : GoodIn wsX9_pair wsX2_wantersOf := goodIn_r _ [40, 31, 19, 41, 42, 43, 44, 45, 46, 47, 48, 49, 50, 51, 52, 28, 29, 13, 30, 32, 33, 34, 35, 36, 21, 22, 23, 69, 70, 71, 72, 73, 74, 75, 76, 77, 78, 79, 80, 81, 82, 83, 84, 85, 86, 87, 88, 89, 100, 101, 102, 103, 104, 105, 90, 91, 92, 93, 94, 95, 96, 97, 98, 99] (by decide +kernel) (by decide +kernel)
set_option maxRecDepth 20000 in
theorem gX9_pair_X2_wantersOf : GoodIn wsX9_pair (wsV RX9 206 RX2 yX2_wantersOf wsX2_wantersOf) := goodIn_app (goodIn_of _ (by decide +kernel)) ggX9_pair_X2_wantersOf
set_option maxRecDepth 20000 in
theorem ggX9_pair_X3_lateNumberOf : GoodIn wsX9_pair wsX3_lateNumberOf := goodIn_r _ [56, 57, 58, 59, 60, 61, 62, 46, 63, 64, 77, 78, 79, 80, 81, 82, 83, 84, 85, 86, 87, 88, 89, 90, 91, 92, 93, 94, 95, 96, 97, 98, 99] (by decide +kernel) (by decide +kernel)
set_option maxRecDepth 20000 in
theorem gX9_pair_X3_lateNumberOf : GoodIn wsX9_pair (wsV RX9 209 RX3 yX3_lateNumberOf wsX3_lateNumberOf) := goodIn_app (goodIn_of _ (by decide +kernel)) ggX9_pair_X3_lateNumberOf
theorem dX9_pair_0 : decode cX9_pair 0 = .ok (.aload_n 0, 1) := by decide +kernel
theorem dX9_pair_1 : decode cX9_pair 1 = .ok (.getfield 10, 3) := by decide +kernel
theorem dX9_pair_4 : decode cX9_pair 4 = .ok (.iload_n 1, 1) := by decide +kernel
theorem dX9_pair_5 : decode cX9_pair 5 = .ok (.iload_n 2, 1) := by decide +kernel
theorem dX9_pair_6 : decode cX9_pair 6 = .ok (.invokevirtual 92, 3) := by decide +kernel
theorem dX9_pair_9 : decode cX9_pair 9 = .ok (.ifCond .ne 5, 3) := by decide +kernel
theorem dX9_pair_12 : decode cX9_pair 12 = .ok (.iconst (-1), 1) := by decide +kernel
theorem dX9_pair_13 : decode cX9_pair 13 = .ok (.ireturn, 1) := by decide +kernel
theorem dX9_pair_14 : decode cX9_pair 14 = .ok (.aload_n 0, 1) := by decide +kernel
theorem dX9_pair_15 : decode cX9_pair 15 = .ok (.getfield 10, 3) := by decide +kernel
theorem dX9_pair_18 : decode cX9_pair 18 = .ok (.getfield 80, 3) := by decide +kernel
theorem dX9_pair_21 : decode cX9_pair 21 = .ok (.iload_n 1, 1) := by decide +kernel
theorem dX9_pair_22 : decode cX9_pair 22 = .ok (.aaload, 1) := by decide +kernel
theorem dX9_pair_23 : decode cX9_pair 23 = .ok (.getfield 95, 3) := by decide +kernel
theorem dX9_pair_26 : decode cX9_pair 26 = .ok (.astore 4, 2) := by decide +kernel
theorem dX9_pair_28 : decode cX9_pair 28 = .ok (.iload_n 3, 1) := by decide +kernel
theorem dX9_pair_29 : decode cX9_pair 29 = .ok (.tableswitch 182 0 8 #[51, 64, 80, 96, 109, 123, 131, 139, 152], 51) := by decide +kernel
theorem dX9_pair_80 : decode cX9_pair 80 = .ok (.aload 4, 2) := by decide +kernel
theorem dX9_pair_82 : decode cX9_pair 82 = .ok (.getfield 99, 3) := by decide +kernel
theorem dX9_pair_85 : decode cX9_pair 85 = .ok (.iload_n 2, 1) := by decide +kernel
theorem dX9_pair_86 : decode cX9_pair 86 = .ok (.invokestatic 104, 3) := by decide +kernel
theorem dX9_pair_89 : decode cX9_pair 89 = .ok (.invokestatic 132, 3) := by decide +kernel
theorem dX9_pair_92 : decode cX9_pair 92 = .ok (.ireturn, 1) := by decide +kernel
theorem dX9_pair_93 : decode cX9_pair 93 = .ok (.aload_n 0, 1) := by decide +kernel
theorem dX9_pair_94 : decode cX9_pair 94 = .ok (.getfield 10, 3) := by decide +kernel
theorem dX9_pair_97 : decode cX9_pair 97 = .ok (.iload_n 1, 1) := by decide +kernel
theorem dX9_pair_98 : decode cX9_pair 98 = .ok (.invokevirtual 200, 3) := by decide +kernel
theorem dX9_pair_101 : decode cX9_pair 101 = .ok (.iload_n 2, 1) := by decide +kernel
theorem dX9_pair_102 : decode cX9_pair 102 = .ok (.invokestatic 104, 3) := by decide +kernel
theorem dX9_pair_105 : decode cX9_pair 105 = .ok (.invokestatic 132, 3) := by decide +kernel
theorem dX9_pair_108 : decode cX9_pair 108 = .ok (.ireturn, 1) := by decide +kernel
theorem dX9_pair_109 : decode cX9_pair 109 = .ok (.aload_n 0, 1) := by decide +kernel
theorem dX9_pair_110 : decode cX9_pair 110 = .ok (.getfield 10, 3) := by decide +kernel
theorem dX9_pair_113 : decode cX9_pair 113 = .ok (.iload_n 1, 1) := by decide +kernel
theorem dX9_pair_114 : decode cX9_pair 114 = .ok (.invokevirtual 206, 3) := by decide +kernel
theorem dX9_pair_117 : decode cX9_pair 117 = .ok (.iload_n 2, 1) := by decide +kernel
theorem dX9_pair_118 : decode cX9_pair 118 = .ok (.invokestatic 104, 3) := by decide +kernel
theorem dX9_pair_121 : decode cX9_pair 121 = .ok (.invokestatic 132, 3) := by decide +kernel
theorem dX9_pair_124 : decode cX9_pair 124 = .ok (.ireturn, 1) := by decide +kernel
theorem dX9_pair_125 : decode cX9_pair 125 = .ok (.aload 4, 2) := by decide +kernel
theorem dX9_pair_127 : decode cX9_pair 127 = .ok (.getfield 178, 3) := by decide +kernel
theorem dX9_pair_130 : decode cX9_pair 130 = .ok (.iload_n 2, 1) := by decide +kernel
theorem dX9_pair_131 : decode cX9_pair 131 = .ok (.invokestatic 104, 3) := by decide +kernel
theorem dX9_pair_134 : decode cX9_pair 134 = .ok (.invokestatic 132, 3) := by decide +kernel
theorem dX9_pair_137 : decode cX9_pair 137 = .ok (.ireturn, 1) := by decide +kernel
theorem dX9_pair_138 : decode cX9_pair 138 = .ok (.aload_n 0, 1) := by decide +kernel
theorem dX9_pair_139 : decode cX9_pair 139 = .ok (.getfield 10, 3) := by decide +kernel
theorem dX9_pair_142 : decode cX9_pair 142 = .ok (.getfield 80, 3) := by decide +kernel
theorem dX9_pair_145 : decode cX9_pair 145 = .ok (.iload_n 1, 1) := by decide +kernel
theorem dX9_pair_146 : decode cX9_pair 146 = .ok (.aaload, 1) := by decide +kernel
theorem dX9_pair_147 : decode cX9_pair 147 = .ok (.iload_n 2, 1) := by decide +kernel
theorem dX9_pair_148 : decode cX9_pair 148 = .ok (.invokevirtual 209, 3) := by decide +kernel
theorem dX9_pair_151 : decode cX9_pair 151 = .ok (.ireturn, 1) := by decide +kernel
theorem dX9_pair_152 : decode cX9_pair 152 = .ok (.aload 4, 2) := by decide +kernel
theorem dX9_pair_154 : decode cX9_pair 154 = .ok (.getfield 212, 3) := by decide +kernel
theorem dX9_pair_157 : decode cX9_pair 157 = .ok (.iload_n 2, 1) := by decide +kernel
theorem dX9_pair_158 : decode cX9_pair 158 = .ok (.iaload, 1) := by decide +kernel
theorem dX9_pair_159 : decode cX9_pair 159 = .ok (.ireturn, 1) := by decide +kernel
theorem dX9_pair_160 : decode cX9_pair 160 = .ok (.aload 4, 2) := by decide +kernel
theorem dX9_pair_162 : decode cX9_pair 162 = .ok (.getfield 214, 3) := by decide +kernel
theorem dX9_pair_165 : decode cX9_pair 165 = .ok (.iload_n 2, 1) := by decide +kernel
theorem dX9_pair_166 : decode cX9_pair 166 = .ok (.iaload, 1) := by decide +kernel
theorem dX9_pair_167 : decode cX9_pair 167 = .ok (.ireturn, 1) := by decide +kernel
theorem dX9_pair_168 : decode cX9_pair 168 = .ok (.aload 4, 2) := by decide +kernel
theorem dX9_pair_170 : decode cX9_pair 170 = .ok (.getfield 175, 3) := by decide +kernel
theorem dX9_pair_173 : decode cX9_pair 173 = .ok (.iload_n 2, 1) := by decide +kernel
theorem dX9_pair_174 : decode cX9_pair 174 = .ok (.invokestatic 104, 3) := by decide +kernel
theorem dX9_pair_177 : decode cX9_pair 177 = .ok (.invokestatic 132, 3) := by decide +kernel
theorem dX9_pair_180 : decode cX9_pair 180 = .ok (.ireturn, 1) := by decide +kernel
theorem dX9_pair_181 : decode cX9_pair 181 = .ok (.aload 4, 2) := by decide +kernel
theorem dX9_pair_183 : decode cX9_pair 183 = .ok (.getfield 217, 3) := by decide +kernel
theorem dX9_pair_186 : decode cX9_pair 186 = .ok (.iload_n 2, 1) := by decide +kernel
theorem dX9_pair_187 : decode cX9_pair 187 = .ok (.if_icmp .ne 19, 3) := by decide +kernel
theorem dX9_pair_190 : decode cX9_pair 190 = .ok (.aload 4, 2) := by decide +kernel
theorem dX9_pair_192 : decode cX9_pair 192 = .ok (.getfield 178, 3) := by decide +kernel
theorem dX9_pair_195 : decode cX9_pair 195 = .ok (.iload_n 2, 1) := by decide +kernel
theorem dX9_pair_196 : decode cX9_pair 196 = .ok (.invokestatic 104, 3) := by decide +kernel
theorem dX9_pair_199 : decode cX9_pair 199 = .ok (.ifCond .eq 7, 3) := by decide +kernel
theorem dX9_pair_202 : decode cX9_pair 202 = .ok (.iconst 1, 1) := by decide +kernel
theorem dX9_pair_203 : decode cX9_pair 203 = .ok (.goto 4, 3) := by decide +kernel
theorem dX9_pair_206 : decode cX9_pair 206 = .ok (.iconst 0, 1) := by decide +kernel
theorem dX9_pair_207 : decode cX9_pair 207 = .ok (.invokestatic 132, 3) := by decide +kernel
theorem dX9_pair_210 : decode cX9_pair 210 = .ok (.ireturn, 1) := by decide +kernel
theorem dX9_pair_211 : decode cX9_pair 211 = .ok (.iconst (-1), 1) := by decide +kernel
theorem dX9_pair_212 : decode cX9_pair 212 = .ok (.ireturn, 1) := by decide +kernel
set_option maxRecDepth 20000 in
theorem ggX9_alone_X8_allPieces : GoodIn wsX9_alone wsX8_allPieces := goodIn_r _ [10, 11, 67, 68, 69] (by decide +kernel) (by decide +kernel)
set_option maxRecDepth 20000 in
theorem gX9_alone_X8_allPieces : GoodIn wsX9_alone (wsV RX9 220 RX8 yX8_allPieces wsX8_allPieces) := goodIn_app (goodIn_of _ (by decide +kernel)) ggX9_alone_X8_allPieces
set_option maxRecDepth 20000 in
theorem ggX9_alone_X2_hadByOthersThan : GoodIn wsX9_alone wsX2_hadByOthersThan := goodIn_r _ [16, 17, 18, 19, 20, 21, 22, 23, 24, 40, 41, 42, 43, 44, 45, 46, 47, 48, 49, 50, 51, 52, 53, 54, 55, 56, 57, 58, 59, 60, 61, 62, 63, 64, 65, 66] (by decide +kernel) (by decide +kernel)
set_option maxRecDepth 20000 in
theorem gX9_alone_X2_hadByOthersThan : GoodIn wsX9_alone (wsV RX9 223 RX2 yX2_hadByOthersThan wsX2_hadByOthersThan) := goodIn_app (goodIn_of _ (by decide +kernel)) ggX9_alone_X2_hadByOthersThan
set_option maxRecDepth 20000 in
theorem ggX9_alone_J6_bitCount_0f7a4 : GoodIn wsX9_alone wsJ6_bitCount_0f7a4 := goodIn_r _ [28, 29, 30, 31] (by decide +kernel) (by decide +kernel)
set_option maxRecDepth 20000 in
theorem gX9_alone_J6_bitCount_0f7a4 : GoodIn wsX9_alone (va_wsS RX9 145 yJ6_bitCount_0f7a4 wsJ6_bitCount_0f7a4) := goodIn_app (goodIn_of _ (by decide +kernel)) ggX9_alone_J6_bitCount_0f7a4
set_option maxRecDepth 20000 in
theorem ggX9_alone_X2_isMember : GoodIn wsX9_alone wsX2_isMember := goodIn_r _ [35, 17, 40, 41, 42, 43, 44, 45, 46, 47] (by decide +kernel) (by decide +kernel)
set_option maxRecDepth 20000 in
theorem gX9_alone_X2_isMember : GoodIn wsX9_alone (wsV RX9 77 RX2 yX2_isMember wsX2_isMember) := goodIn_app (goodIn_of _ (by decide +kernel)) ggX9_alone_X2_isMember
theorem dX9_alone_0 : decode cX9_alone 0 = .ok (.iload_n 1, 1) := by decide +kernel
theorem dX9_alone_1 : decode cX9_alone 1 = .ok (.iconst (-1), 1) := by decide +kernel
theorem dX9_alone_2 : decode cX9_alone 2 = .ok (.if_icmp .ne 28, 3) := by decide +kernel
theorem dX9_alone_5 : decode cX9_alone 5 = .ok (.aload_n 0, 1) := by decide +kernel
theorem dX9_alone_6 : decode cX9_alone 6 = .ok (.getfield 10, 3) := by decide +kernel
theorem dX9_alone_9 : decode cX9_alone 9 = .ok (.getfield 47, 3) := by decide +kernel
theorem dX9_alone_12 : decode cX9_alone 12 = .ok (.invokevirtual 220, 3) := by decide +kernel
theorem dX9_alone_15 : decode cX9_alone 15 = .ok (.aload_n 0, 1) := by decide +kernel
theorem dX9_alone_16 : decode cX9_alone 16 = .ok (.getfield 10, 3) := by decide +kernel
theorem dX9_alone_19 : decode cX9_alone 19 = .ok (.iconst (-1), 1) := by decide +kernel
theorem dX9_alone_20 : decode cX9_alone 20 = .ok (.invokevirtual 223, 3) := by decide +kernel
theorem dX9_alone_23 : decode cX9_alone 23 = .ok (.iconst (-1), 1) := by decide +kernel
theorem dX9_alone_24 : decode cX9_alone 24 = .ok (.ixor, 1) := by decide +kernel
theorem dX9_alone_25 : decode cX9_alone 25 = .ok (.iand, 1) := by decide +kernel
theorem dX9_alone_26 : decode cX9_alone 26 = .ok (.invokestatic 145, 3) := by decide +kernel
theorem dX9_alone_29 : decode cX9_alone 29 = .ok (.ireturn, 1) := by decide +kernel
theorem dX9_alone_30 : decode cX9_alone 30 = .ok (.aload_n 0, 1) := by decide +kernel
theorem dX9_alone_31 : decode cX9_alone 31 = .ok (.getfield 10, 3) := by decide +kernel
theorem dX9_alone_34 : decode cX9_alone 34 = .ok (.iload_n 1, 1) := by decide +kernel
theorem dX9_alone_35 : decode cX9_alone 35 = .ok (.invokevirtual 77, 3) := by decide +kernel
theorem dX9_alone_38 : decode cX9_alone 38 = .ok (.ifCond .ne 5, 3) := by decide +kernel
theorem dX9_alone_41 : decode cX9_alone 41 = .ok (.iconst (-1), 1) := by decide +kernel
theorem dX9_alone_42 : decode cX9_alone 42 = .ok (.ireturn, 1) := by decide +kernel
theorem dX9_alone_43 : decode cX9_alone 43 = .ok (.aload_n 0, 1) := by decide +kernel
theorem dX9_alone_44 : decode cX9_alone 44 = .ok (.getfield 10, 3) := by decide +kernel
theorem dX9_alone_47 : decode cX9_alone 47 = .ok (.getfield 80, 3) := by decide +kernel
theorem dX9_alone_50 : decode cX9_alone 50 = .ok (.iload_n 1, 1) := by decide +kernel
theorem dX9_alone_51 : decode cX9_alone 51 = .ok (.aaload, 1) := by decide +kernel
theorem dX9_alone_52 : decode cX9_alone 52 = .ok (.getfield 136, 3) := by decide +kernel
theorem dX9_alone_55 : decode cX9_alone 55 = .ok (.getfield 140, 3) := by decide +kernel
theorem dX9_alone_58 : decode cX9_alone 58 = .ok (.aload_n 0, 1) := by decide +kernel
theorem dX9_alone_59 : decode cX9_alone 59 = .ok (.getfield 10, 3) := by decide +kernel
theorem dX9_alone_62 : decode cX9_alone 62 = .ok (.iload_n 1, 1) := by decide +kernel
theorem dX9_alone_63 : decode cX9_alone 63 = .ok (.invokevirtual 223, 3) := by decide +kernel
theorem dX9_alone_66 : decode cX9_alone 66 = .ok (.iconst (-1), 1) := by decide +kernel
theorem dX9_alone_67 : decode cX9_alone 67 = .ok (.ixor, 1) := by decide +kernel
theorem dX9_alone_68 : decode cX9_alone 68 = .ok (.iand, 1) := by decide +kernel
theorem dX9_alone_69 : decode cX9_alone 69 = .ok (.invokestatic 145, 3) := by decide +kernel
theorem dX9_alone_72 : decode cX9_alone 72 = .ok (.ireturn, 1) := by decide +kernel
set_option maxRecDepth 20000 in
theorem ggX9_bound_X2_isMember : GoodIn wsX9_bound wsX2_isMember := goodIn_r _ [19, 20, 62, 63, 64, 65, 66, 67, 68, 69] (by decide +kernel) (by decide +kernel)
set_option maxRecDepth 20000 in
theorem gX9_bound_X2_isMember : GoodIn wsX9_bound (wsV RX9 77 RX2 yX2_isMember wsX2_isMember) := goodIn_app (goodIn_of _ (by decide +kernel)) ggX9_bound_X2_isMember
set_option maxRecDepth 20000 in
theorem ggX9_bound_X9_isIn : GoodIn wsX9_bound wsX9_isIn := goodIn_r _ [24] (by decide +kernel) (by decide +kernel)
set_option maxRecDepth 20000 in
theorem gX9_bound_X9_isIn : GoodIn wsX9_bound (va_wsS RX9 104 yX9_isIn wsX9_isIn) := goodIn_app (goodIn_of _ (by decide +kernel)) ggX9_bound_X9_isIn
set_option maxRecDepth 20000 in
theorem ggX9_bound_X3_isDone : GoodIn wsX9_bound wsX3_isDone := goodIn_r _ [29, 30, 73, 74, 75, 76, 77, 78, 79, 80, 81, 82, 83, 84, 85] (by decide +kernel) (by decide +kernel)
set_option maxRecDepth 20000 in
theorem gX9_bound_X3_isDone : GoodIn wsX9_bound (wsV RX9 226 RX3 yX3_isDone wsX3_isDone) := goodIn_app (goodIn_of _ (by decide +kernel)) ggX9_bound_X3_isDone
set_option maxRecDepth 20000 in
theorem ggX9_bound_X9_cutUp : GoodIn wsX9_bound wsX9_cutUp := goodIn_r _ [33] (by decide +kernel) (by decide +kernel)
set_option maxRecDepth 20000 in
theorem gX9_bound_X9_cutUp : GoodIn wsX9_bound (va_wsS RX9 236 yX9_cutUp wsX9_cutUp) := goodIn_app (goodIn_of _ (by decide +kernel)) ggX9_bound_X9_cutUp
set_option maxRecDepth 20000 in
theorem ggX9_bound_X6_isBare : GoodIn wsX9_bound wsX6_isBare := goodIn_r _ [38, 39, 40, 41, 42, 43, 37, 44, 45, 46, 47, 48, 49, 50, 51, 52, 53, 22, 23, 24, 54, 55, 56, 57, 86, 87, 88, 89, 90, 91] (by decide +kernel) (by decide +kernel)
set_option maxRecDepth 20000 in
theorem gX9_bound_X6_isBare : GoodIn wsX9_bound (wsV RX9 239 RX6 yX6_isBare wsX6_isBare) := goodIn_app (goodIn_of _ (by decide +kernel)) ggX9_bound_X6_isBare
theorem dX9_bound_0 : decode cX9_bound 0 = .ok (.aload_n 0, 1) := by decide +kernel
theorem dX9_bound_1 : decode cX9_bound 1 = .ok (.getfield 10, 3) := by decide +kernel
theorem dX9_bound_4 : decode cX9_bound 4 = .ok (.iload_n 1, 1) := by decide +kernel
theorem dX9_bound_5 : decode cX9_bound 5 = .ok (.invokevirtual 77, 3) := by decide +kernel
theorem dX9_bound_8 : decode cX9_bound 8 = .ok (.ifCond .eq 32, 3) := by decide +kernel
theorem dX9_bound_11 : decode cX9_bound 11 = .ok (.aload_n 0, 1) := by decide +kernel
theorem dX9_bound_12 : decode cX9_bound 12 = .ok (.getfield 10, 3) := by decide +kernel
theorem dX9_bound_15 : decode cX9_bound 15 = .ok (.getfield 107, 3) := by decide +kernel
theorem dX9_bound_18 : decode cX9_bound 18 = .ok (.iload_n 1, 1) := by decide +kernel
theorem dX9_bound_19 : decode cX9_bound 19 = .ok (.invokestatic 104, 3) := by decide +kernel
theorem dX9_bound_22 : decode cX9_bound 22 = .ok (.ifCond .eq 18, 3) := by decide +kernel
theorem dX9_bound_25 : decode cX9_bound 25 = .ok (.aload_n 0, 1) := by decide +kernel
theorem dX9_bound_26 : decode cX9_bound 26 = .ok (.getfield 10, 3) := by decide +kernel
theorem dX9_bound_29 : decode cX9_bound 29 = .ok (.getfield 80, 3) := by decide +kernel
theorem dX9_bound_32 : decode cX9_bound 32 = .ok (.iload_n 1, 1) := by decide +kernel
theorem dX9_bound_33 : decode cX9_bound 33 = .ok (.aaload, 1) := by decide +kernel
theorem dX9_bound_34 : decode cX9_bound 34 = .ok (.invokevirtual 226, 3) := by decide +kernel
theorem dX9_bound_37 : decode cX9_bound 37 = .ok (.ifCond .ne 5, 3) := by decide +kernel
theorem dX9_bound_40 : decode cX9_bound 40 = .ok (.iconst (-1), 1) := by decide +kernel
theorem dX9_bound_41 : decode cX9_bound 41 = .ok (.ireturn, 1) := by decide +kernel
theorem dX9_bound_42 : decode cX9_bound 42 = .ok (.aload_n 0, 1) := by decide +kernel
theorem dX9_bound_43 : decode cX9_bound 43 = .ok (.getfield 10, 3) := by decide +kernel
theorem dX9_bound_46 : decode cX9_bound 46 = .ok (.getfield 47, 3) := by decide +kernel
theorem dX9_bound_49 : decode cX9_bound 49 = .ok (.getfield 230, 3) := by decide +kernel
theorem dX9_bound_52 : decode cX9_bound 52 = .ok (.aload_n 0, 1) := by decide +kernel
theorem dX9_bound_53 : decode cX9_bound 53 = .ok (.getfield 10, 3) := by decide +kernel
theorem dX9_bound_56 : decode cX9_bound 56 = .ok (.getfield 47, 3) := by decide +kernel
theorem dX9_bound_59 : decode cX9_bound 59 = .ok (.getfield 181, 3) := by decide +kernel
theorem dX9_bound_62 : decode cX9_bound 62 = .ok (.imul, 1) := by decide +kernel
theorem dX9_bound_63 : decode cX9_bound 63 = .ok (.istore_n 2, 1) := by decide +kernel
theorem dX9_bound_64 : decode cX9_bound 64 = .ok (.iconst 0, 1) := by decide +kernel
theorem dX9_bound_65 : decode cX9_bound 65 = .ok (.istore_n 3, 1) := by decide +kernel
theorem dX9_bound_66 : decode cX9_bound 66 = .ok (.aload_n 0, 1) := by decide +kernel
theorem dX9_bound_67 : decode cX9_bound 67 = .ok (.getfield 10, 3) := by decide +kernel
theorem dX9_bound_70 : decode cX9_bound 70 = .ok (.getfield 80, 3) := by decide +kernel
theorem dX9_bound_73 : decode cX9_bound 73 = .ok (.iload_n 1, 1) := by decide +kernel
theorem dX9_bound_74 : decode cX9_bound 74 = .ok (.aaload, 1) := by decide +kernel
theorem dX9_bound_75 : decode cX9_bound 75 = .ok (.getfield 233, 3) := by decide +kernel
theorem dX9_bound_78 : decode cX9_bound 78 = .ok (.istore 4, 2) := by decide +kernel
theorem dX9_bound_80 : decode cX9_bound 80 = .ok (.iload_n 2, 1) := by decide +kernel
theorem dX9_bound_81 : decode cX9_bound 81 = .ok (.aload_n 0, 1) := by decide +kernel
theorem dX9_bound_82 : decode cX9_bound 82 = .ok (.getfield 10, 3) := by decide +kernel
theorem dX9_bound_85 : decode cX9_bound 85 = .ok (.getfield 80, 3) := by decide +kernel
theorem dX9_bound_88 : decode cX9_bound 88 = .ok (.iload_n 1, 1) := by decide +kernel
theorem dX9_bound_89 : decode cX9_bound 89 = .ok (.aaload, 1) := by decide +kernel
theorem dX9_bound_90 : decode cX9_bound 90 = .ok (.getfield 233, 3) := by decide +kernel
theorem dX9_bound_93 : decode cX9_bound 93 = .ok (.invokestatic 236, 3) := by decide +kernel
theorem dX9_bound_96 : decode cX9_bound 96 = .ok (.istore 5, 2) := by decide +kernel
theorem dX9_bound_98 : decode cX9_bound 98 = .ok (.iconst 0, 1) := by decide +kernel
theorem dX9_bound_99 : decode cX9_bound 99 = .ok (.istore 6, 2) := by decide +kernel
theorem dX9_bound_101 : decode cX9_bound 101 = .ok (.iload 6, 2) := by decide +kernel
theorem dX9_bound_103 : decode cX9_bound 103 = .ok (.aload_n 0, 1) := by decide +kernel
theorem dX9_bound_104 : decode cX9_bound 104 = .ok (.getfield 10, 3) := by decide +kernel
theorem dX9_bound_107 : decode cX9_bound 107 = .ok (.getfield 39, 3) := by decide +kernel
theorem dX9_bound_110 : decode cX9_bound 110 = .ok (.if_icmp .ge 87, 3) := by decide +kernel
theorem dX9_bound_113 : decode cX9_bound 113 = .ok (.iload 6, 2) := by decide +kernel
theorem dX9_bound_115 : decode cX9_bound 115 = .ok (.iload_n 1, 1) := by decide +kernel
theorem dX9_bound_116 : decode cX9_bound 116 = .ok (.if_icmp .eq 75, 3) := by decide +kernel
theorem dX9_bound_119 : decode cX9_bound 119 = .ok (.aload_n 0, 1) := by decide +kernel
theorem dX9_bound_120 : decode cX9_bound 120 = .ok (.getfield 10, 3) := by decide +kernel
theorem dX9_bound_123 : decode cX9_bound 123 = .ok (.getfield 107, 3) := by decide +kernel
theorem dX9_bound_126 : decode cX9_bound 126 = .ok (.iload 6, 2) := by decide +kernel
theorem dX9_bound_128 : decode cX9_bound 128 = .ok (.invokestatic 104, 3) := by decide +kernel
theorem dX9_bound_131 : decode cX9_bound 131 = .ok (.ifCond .ne 6, 3) := by decide +kernel
theorem dX9_bound_134 : decode cX9_bound 134 = .ok (.goto 57, 3) := by decide +kernel
theorem dX9_bound_137 : decode cX9_bound 137 = .ok (.aload_n 0, 1) := by decide +kernel
theorem dX9_bound_138 : decode cX9_bound 138 = .ok (.getfield 10, 3) := by decide +kernel
theorem dX9_bound_141 : decode cX9_bound 141 = .ok (.getfield 80, 3) := by decide +kernel
theorem dX9_bound_144 : decode cX9_bound 144 = .ok (.iload 6, 2) := by decide +kernel
theorem dX9_bound_146 : decode cX9_bound 146 = .ok (.aaload, 1) := by decide +kernel
theorem dX9_bound_147 : decode cX9_bound 147 = .ok (.astore 7, 2) := by decide +kernel
theorem dX9_bound_149 : decode cX9_bound 149 = .ok (.aload 7, 2) := by decide +kernel
theorem dX9_bound_151 : decode cX9_bound 151 = .ok (.getfield 136, 3) := by decide +kernel
theorem dX9_bound_154 : decode cX9_bound 154 = .ok (.invokevirtual 239, 3) := by decide +kernel
theorem dX9_bound_157 : decode cX9_bound 157 = .ok (.ifCond .ne 5, 3) := by decide +kernel
theorem dX9_bound_160 : decode cX9_bound 160 = .ok (.iconst (-1), 1) := by decide +kernel
theorem dX9_bound_161 : decode cX9_bound 161 = .ok (.ireturn, 1) := by decide +kernel
theorem dX9_bound_162 : decode cX9_bound 162 = .ok (.iinc 3 1, 3) := by decide +kernel
theorem dX9_bound_165 : decode cX9_bound 165 = .ok (.iload 4, 2) := by decide +kernel
theorem dX9_bound_167 : decode cX9_bound 167 = .ok (.aload 7, 2) := by decide +kernel
theorem dX9_bound_169 : decode cX9_bound 169 = .ok (.getfield 233, 3) := by decide +kernel
theorem dX9_bound_172 : decode cX9_bound 172 = .ok (.iadd, 1) := by decide +kernel
theorem dX9_bound_173 : decode cX9_bound 173 = .ok (.istore 4, 2) := by decide +kernel
theorem dX9_bound_175 : decode cX9_bound 175 = .ok (.iload 5, 2) := by decide +kernel
theorem dX9_bound_177 : decode cX9_bound 177 = .ok (.iload_n 2, 1) := by decide +kernel
theorem dX9_bound_178 : decode cX9_bound 178 = .ok (.aload 7, 2) := by decide +kernel
theorem dX9_bound_180 : decode cX9_bound 180 = .ok (.getfield 242, 3) := by decide +kernel
theorem dX9_bound_183 : decode cX9_bound 183 = .ok (.invokestatic 236, 3) := by decide +kernel
theorem dX9_bound_186 : decode cX9_bound 186 = .ok (.invokestatic 245, 3) := by decide +kernel
theorem dX9_bound_189 : decode cX9_bound 189 = .ok (.istore 5, 2) := by decide +kernel
theorem dX9_bound_191 : decode cX9_bound 191 = .ok (.iinc 6 1, 3) := by decide +kernel
theorem dX9_bound_194 : decode cX9_bound 194 = .ok (.goto (-93), 3) := by decide +kernel
theorem dX9_bound_197 : decode cX9_bound 197 = .ok (.iload_n 3, 1) := by decide +kernel
theorem dX9_bound_198 : decode cX9_bound 198 = .ok (.ifCond .ne 7, 3) := by decide +kernel
theorem dX9_bound_201 : decode cX9_bound 201 = .ok (.iconst (-1), 1) := by decide +kernel
theorem dX9_bound_202 : decode cX9_bound 202 = .ok (.goto 16, 3) := by decide +kernel
theorem dX9_bound_205 : decode cX9_bound 205 = .ok (.iload 5, 2) := by decide +kernel
theorem dX9_bound_207 : decode cX9_bound 207 = .ok (.iload_n 2, 1) := by decide +kernel
theorem dX9_bound_208 : decode cX9_bound 208 = .ok (.iload_n 3, 1) := by decide +kernel
theorem dX9_bound_209 : decode cX9_bound 209 = .ok (.imul, 1) := by decide +kernel
theorem dX9_bound_210 : decode cX9_bound 210 = .ok (.iload 4, 2) := by decide +kernel
theorem dX9_bound_212 : decode cX9_bound 212 = .ok (.invokestatic 236, 3) := by decide +kernel
theorem dX9_bound_215 : decode cX9_bound 215 = .ok (.invokestatic 245, 3) := by decide +kernel
theorem dX9_bound_218 : decode cX9_bound 218 = .ok (.ireturn, 1) := by decide +kernel
set_option maxRecDepth 20000 in
theorem ggX9_count_J6_bitCount_0f7a4 : GoodIn wsX9_count wsJ6_bitCount_0f7a4 := goodIn_r _ [15, 16, 17, 18] (by decide +kernel) (by decide +kernel)
set_option maxRecDepth 20000 in
theorem gX9_count_J6_bitCount_0f7a4 : GoodIn wsX9_count (va_wsS RX9 145 yJ6_bitCount_0f7a4 wsJ6_bitCount_0f7a4) := goodIn_app (goodIn_of _ (by decide +kernel)) ggX9_count_J6_bitCount_0f7a4
set_option maxRecDepth 20000 in
theorem ggX9_count_X2_doneAndHere : GoodIn wsX9_count wsX2_doneAndHere := goodIn_r _ [23, 24, 25, 26, 27, 28, 29, 30, 31, 32, 33, 34, 35, 36, 37, 52, 53, 54, 55, 56, 57, 58, 59, 70, 71, 72, 73, 74, 75, 76, 77, 78, 79, 80, 81, 82] (by decide +kernel) (by decide +kernel)
set_option maxRecDepth 20000 in
theorem gX9_count_X2_doneAndHere : GoodIn wsX9_count (wsV RX9 250 RX2 yX2_doneAndHere wsX2_doneAndHere) := goodIn_app (goodIn_of _ (by decide +kernel)) ggX9_count_X2_doneAndHere
set_option maxRecDepth 20000 in
theorem ggX9_count_X2_failedInAll : GoodIn wsX9_count wsX2_failedInAll := goodIn_r _ [41, 24, 26, 42, 52, 53, 54, 55, 56, 57, 58, 59, 70, 71, 72, 73, 74, 75, 76, 77, 78, 79, 80, 81, 82] (by decide +kernel) (by decide +kernel)
set_option maxRecDepth 20000 in
theorem gX9_count_X2_failedInAll : GoodIn wsX9_count (wsV RX9 265 RX2 yX2_failedInAll wsX2_failedInAll) := goodIn_app (goodIn_of _ (by decide +kernel)) ggX9_count_X2_failedInAll
set_option maxRecDepth 20000 in
theorem ggX9_count_X2_spareInAll : GoodIn wsX9_count wsX2_spareInAll := goodIn_r _ [46, 24, 26, 47, 52, 53, 54, 55, 56, 57, 58, 59, 70, 71, 72, 73, 74, 75, 76, 77, 78, 79, 80, 81, 82] (by decide +kernel) (by decide +kernel)
set_option maxRecDepth 20000 in
theorem gX9_count_X2_spareInAll : GoodIn wsX9_count (wsV RX9 268 RX2 yX2_spareInAll wsX2_spareInAll) := goodIn_app (goodIn_of _ (by decide +kernel)) ggX9_count_X2_spareInAll
theorem dX9_count_0 : decode cX9_count 0 = .ok (.iload_n 1, 1) := by decide +kernel
theorem dX9_count_1 : decode cX9_count 1 = .ok (.tableswitch 159 0 10 #[59, 67, 75, 86, 94, 105, 116, 124, 135, 143, 151], 59) := by decide +kernel
theorem dX9_count_60 : decode cX9_count 60 = .ok (.aload_n 0, 1) := by decide +kernel
theorem dX9_count_61 : decode cX9_count 61 = .ok (.getfield 10, 3) := by decide +kernel
theorem dX9_count_64 : decode cX9_count 64 = .ok (.getfield 117, 3) := by decide +kernel
theorem dX9_count_67 : decode cX9_count 67 = .ok (.ireturn, 1) := by decide +kernel
theorem dX9_count_68 : decode cX9_count 68 = .ok (.aload_n 0, 1) := by decide +kernel
theorem dX9_count_69 : decode cX9_count 69 = .ok (.getfield 10, 3) := by decide +kernel
theorem dX9_count_72 : decode cX9_count 72 = .ok (.getfield 39, 3) := by decide +kernel
theorem dX9_count_75 : decode cX9_count 75 = .ok (.ireturn, 1) := by decide +kernel
theorem dX9_count_76 : decode cX9_count 76 = .ok (.aload_n 0, 1) := by decide +kernel
theorem dX9_count_77 : decode cX9_count 77 = .ok (.getfield 10, 3) := by decide +kernel
theorem dX9_count_80 : decode cX9_count 80 = .ok (.getfield 107, 3) := by decide +kernel
theorem dX9_count_83 : decode cX9_count 83 = .ok (.invokestatic 145, 3) := by decide +kernel
theorem dX9_count_86 : decode cX9_count 86 = .ok (.ireturn, 1) := by decide +kernel
theorem dX9_count_87 : decode cX9_count 87 = .ok (.aload_n 0, 1) := by decide +kernel
theorem dX9_count_88 : decode cX9_count 88 = .ok (.getfield 10, 3) := by decide +kernel
theorem dX9_count_91 : decode cX9_count 91 = .ok (.invokevirtual 250, 3) := by decide +kernel
theorem dX9_count_94 : decode cX9_count 94 = .ok (.ireturn, 1) := by decide +kernel
theorem dX9_count_95 : decode cX9_count 95 = .ok (.aload_n 0, 1) := by decide +kernel
theorem dX9_count_96 : decode cX9_count 96 = .ok (.getfield 10, 3) := by decide +kernel
theorem dX9_count_99 : decode cX9_count 99 = .ok (.getfield 47, 3) := by decide +kernel
theorem dX9_count_102 : decode cX9_count 102 = .ok (.getfield 230, 3) := by decide +kernel
theorem dX9_count_105 : decode cX9_count 105 = .ok (.ireturn, 1) := by decide +kernel
theorem dX9_count_106 : decode cX9_count 106 = .ok (.aload_n 0, 1) := by decide +kernel
theorem dX9_count_107 : decode cX9_count 107 = .ok (.getfield 10, 3) := by decide +kernel
theorem dX9_count_110 : decode cX9_count 110 = .ok (.getfield 47, 3) := by decide +kernel
theorem dX9_count_113 : decode cX9_count 113 = .ok (.getfield 181, 3) := by decide +kernel
theorem dX9_count_116 : decode cX9_count 116 = .ok (.ireturn, 1) := by decide +kernel
theorem dX9_count_117 : decode cX9_count 117 = .ok (.aload_n 0, 1) := by decide +kernel
theorem dX9_count_118 : decode cX9_count 118 = .ok (.getfield 10, 3) := by decide +kernel
theorem dX9_count_121 : decode cX9_count 121 = .ok (.getfield 114, 3) := by decide +kernel
theorem dX9_count_124 : decode cX9_count 124 = .ok (.ireturn, 1) := by decide +kernel
theorem dX9_count_125 : decode cX9_count 125 = .ok (.aload_n 0, 1) := by decide +kernel
theorem dX9_count_126 : decode cX9_count 126 = .ok (.getfield 10, 3) := by decide +kernel
theorem dX9_count_129 : decode cX9_count 129 = .ok (.getfield 253, 3) := by decide +kernel
theorem dX9_count_132 : decode cX9_count 132 = .ok (.getfield 257, 3) := by decide +kernel
theorem dX9_count_135 : decode cX9_count 135 = .ok (.ireturn, 1) := by decide +kernel
theorem dX9_count_136 : decode cX9_count 136 = .ok (.aload_n 0, 1) := by decide +kernel
theorem dX9_count_137 : decode cX9_count 137 = .ok (.getfield 10, 3) := by decide +kernel
theorem dX9_count_140 : decode cX9_count 140 = .ok (.getfield 262, 3) := by decide +kernel
theorem dX9_count_143 : decode cX9_count 143 = .ok (.ireturn, 1) := by decide +kernel
theorem dX9_count_144 : decode cX9_count 144 = .ok (.aload_n 0, 1) := by decide +kernel
theorem dX9_count_145 : decode cX9_count 145 = .ok (.getfield 10, 3) := by decide +kernel
theorem dX9_count_148 : decode cX9_count 148 = .ok (.invokevirtual 265, 3) := by decide +kernel
theorem dX9_count_151 : decode cX9_count 151 = .ok (.ireturn, 1) := by decide +kernel
theorem dX9_count_152 : decode cX9_count 152 = .ok (.aload_n 0, 1) := by decide +kernel
theorem dX9_count_153 : decode cX9_count 153 = .ok (.getfield 10, 3) := by decide +kernel
theorem dX9_count_156 : decode cX9_count 156 = .ok (.invokevirtual 268, 3) := by decide +kernel
theorem dX9_count_159 : decode cX9_count 159 = .ok (.ireturn, 1) := by decide +kernel
theorem dX9_count_160 : decode cX9_count 160 = .ok (.iconst (-1), 1) := by decide +kernel
theorem dX9_count_161 : decode cX9_count 161 = .ok (.ireturn, 1) := by decide +kernel
theorem dX9_isWithin_0 : decode cX9_isWithin 0 = .ok (.iload_n 0, 1) := by decide +kernel
theorem dX9_isWithin_1 : decode cX9_isWithin 1 = .ok (.iload_n 1, 1) := by decide +kernel
theorem dX9_isWithin_2 : decode cX9_isWithin 2 = .ok (.if_icmp .lt 12, 3) := by decide +kernel
theorem dX9_isWithin_5 : decode cX9_isWithin 5 = .ok (.iload_n 0, 1) := by decide +kernel
theorem dX9_isWithin_6 : decode cX9_isWithin 6 = .ok (.iload_n 2, 1) := by decide +kernel
theorem dX9_isWithin_7 : decode cX9_isWithin 7 = .ok (.if_icmp .gt 7, 3) := by decide +kernel
theorem dX9_isWithin_10 : decode cX9_isWithin 10 = .ok (.iconst 1, 1) := by decide +kernel
theorem dX9_isWithin_11 : decode cX9_isWithin 11 = .ok (.goto 4, 3) := by decide +kernel
theorem dX9_isWithin_14 : decode cX9_isWithin 14 = .ok (.iconst 0, 1) := by decide +kernel
theorem dX9_isWithin_15 : decode cX9_isWithin 15 = .ok (.ireturn, 1) := by decide +kernel
theorem dX9_isIn_0 : decode cX9_isIn 0 = .ok (.iload_n 0, 1) := by decide +kernel
theorem dX9_isIn_1 : decode cX9_isIn 1 = .ok (.iload_n 1, 1) := by decide +kernel
theorem dX9_isIn_2 : decode cX9_isIn 2 = .ok (.iushr, 1) := by decide +kernel
theorem dX9_isIn_3 : decode cX9_isIn 3 = .ok (.iconst 1, 1) := by decide +kernel
theorem dX9_isIn_4 : decode cX9_isIn 4 = .ok (.iand, 1) := by decide +kernel
theorem dX9_isIn_5 : decode cX9_isIn 5 = .ok (.iconst 1, 1) := by decide +kernel
theorem dX9_isIn_6 : decode cX9_isIn 6 = .ok (.if_icmp .ne 7, 3) := by decide +kernel
theorem dX9_isIn_9 : decode cX9_isIn 9 = .ok (.iconst 1, 1) := by decide +kernel
theorem dX9_isIn_10 : decode cX9_isIn 10 = .ok (.goto 4, 3) := by decide +kernel
theorem dX9_isIn_13 : decode cX9_isIn 13 = .ok (.iconst 0, 1) := by decide +kernel
theorem dX9_isIn_14 : decode cX9_isIn 14 = .ok (.ireturn, 1) := by decide +kernel
theorem dX9_oneIf_0 : decode cX9_oneIf 0 = .ok (.iload_n 0, 1) := by decide +kernel
theorem dX9_oneIf_1 : decode cX9_oneIf 1 = .ok (.ifCond .eq 7, 3) := by decide +kernel
theorem dX9_oneIf_4 : decode cX9_oneIf 4 = .ok (.iconst 1, 1) := by decide +kernel
theorem dX9_oneIf_5 : decode cX9_oneIf 5 = .ok (.goto 4, 3) := by decide +kernel
theorem dX9_oneIf_8 : decode cX9_oneIf 8 = .ok (.iconst 0, 1) := by decide +kernel
theorem dX9_oneIf_9 : decode cX9_oneIf 9 = .ok (.ireturn, 1) := by decide +kernel
theorem dX9_place_0 : decode cX9_place 0 = .ok (.iload_n 0, 1) := by decide +kernel
theorem dX9_place_1 : decode cX9_place 1 = .ok (.iconst 4, 1) := by decide +kernel
theorem dX9_place_2 : decode cX9_place 2 = .ok (.imul, 1) := by decide +kernel
theorem dX9_place_3 : decode cX9_place 3 = .ok (.iload_n 1, 1) := by decide +kernel
theorem dX9_place_4 : decode cX9_place 4 = .ok (.iadd, 1) := by decide +kernel
theorem dX9_place_5 : decode cX9_place 5 = .ok (.ireturn, 1) := by decide +kernel
theorem dX9_sumWith_0 : decode cX9_sumWith 0 = .ok (.iload_n 0, 1) := by decide +kernel
theorem dX9_sumWith_1 : decode cX9_sumWith 1 = .ok (.ldc_w 271, 3) := by decide +kernel
theorem dX9_sumWith_4 : decode cX9_sumWith 4 = .ok (.imul, 1) := by decide +kernel
theorem dX9_sumWith_5 : decode cX9_sumWith 5 = .ok (.iload_n 1, 1) := by decide +kernel
theorem dX9_sumWith_6 : decode cX9_sumWith 6 = .ok (.iadd, 1) := by decide +kernel
theorem dX9_sumWith_7 : decode cX9_sumWith 7 = .ok (.ireturn, 1) := by decide +kernel
theorem dX9_cutUp_0 : decode cX9_cutUp 0 = .ok (.iload_n 1, 1) := by decide +kernel
theorem dX9_cutUp_1 : decode cX9_cutUp 1 = .ok (.ifCond .gt 7, 3) := by decide +kernel
theorem dX9_cutUp_4 : decode cX9_cutUp 4 = .ok (.iconst 0, 1) := by decide +kernel
theorem dX9_cutUp_5 : decode cX9_cutUp 5 = .ok (.goto 10, 3) := by decide +kernel
theorem dX9_cutUp_8 : decode cX9_cutUp 8 = .ok (.iload_n 0, 1) := by decide +kernel
theorem dX9_cutUp_9 : decode cX9_cutUp 9 = .ok (.iload_n 1, 1) := by decide +kernel
theorem dX9_cutUp_10 : decode cX9_cutUp 10 = .ok (.iadd, 1) := by decide +kernel
theorem dX9_cutUp_11 : decode cX9_cutUp 11 = .ok (.iconst 1, 1) := by decide +kernel
theorem dX9_cutUp_12 : decode cX9_cutUp 12 = .ok (.isub, 1) := by decide +kernel
theorem dX9_cutUp_13 : decode cX9_cutUp 13 = .ok (.iload_n 1, 1) := by decide +kernel
theorem dX9_cutUp_14 : decode cX9_cutUp 14 = .ok (.idiv, 1) := by decide +kernel
theorem dX9_cutUp_15 : decode cX9_cutUp 15 = .ok (.ireturn, 1) := by decide +kernel
theorem dX10_init_0 : decode cX10_init 0 = .ok (.aload_n 0, 1) := by decide +kernel
theorem dX10_init_1 : decode cX10_init 1 = .ok (.invokespecial 1, 3) := by decide +kernel
theorem dX10_init_4 : decode cX10_init 4 = .ok (.aload_n 0, 1) := by decide +kernel
theorem dX10_init_5 : decode cX10_init 5 = .ok (.iconst 1, 1) := by decide +kernel
theorem dX10_init_6 : decode cX10_init 6 = .ok (.putfield 7, 3) := by decide +kernel
theorem dX10_init_9 : decode cX10_init 9 = .ok (.aload_n 0, 1) := by decide +kernel
theorem dX10_init_10 : decode cX10_init 10 = .ok (.iconst 1, 1) := by decide +kernel
theorem dX10_init_11 : decode cX10_init 11 = .ok (.putfield 13, 3) := by decide +kernel
theorem dX10_init_14 : decode cX10_init 14 = .ok (.aload_n 0, 1) := by decide +kernel
theorem dX10_init_15 : decode cX10_init 15 = .ok (.bipush 12, 2) := by decide +kernel
theorem dX10_init_17 : decode cX10_init 17 = .ok (.newarray .int, 2) := by decide +kernel
theorem dX10_init_19 : decode cX10_init 19 = .ok (.putfield 16, 3) := by decide +kernel
theorem dX10_init_22 : decode cX10_init 22 = .ok (.aload_n 0, 1) := by decide +kernel
theorem dX10_init_23 : decode cX10_init 23 = .ok (.bipush 12, 2) := by decide +kernel
theorem dX10_init_25 : decode cX10_init 25 = .ok (.newarray .int, 2) := by decide +kernel
theorem dX10_init_27 : decode cX10_init 27 = .ok (.putfield 20, 3) := by decide +kernel
theorem dX10_init_30 : decode cX10_init 30 = .ok (.aload_n 0, 1) := by decide +kernel
theorem dX10_init_31 : decode cX10_init 31 = .ok (.bipush 12, 2) := by decide +kernel
theorem dX10_init_33 : decode cX10_init 33 = .ok (.newarray .int, 2) := by decide +kernel
theorem dX10_init_35 : decode cX10_init 35 = .ok (.putfield 23, 3) := by decide +kernel
theorem dX10_init_38 : decode cX10_init 38 = .ok (.aload_n 0, 1) := by decide +kernel
theorem dX10_init_39 : decode cX10_init 39 = .ok (.bipush 12, 2) := by decide +kernel
theorem dX10_init_41 : decode cX10_init 41 = .ok (.newarray .boolean, 2) := by decide +kernel
theorem dX10_init_43 : decode cX10_init 43 = .ok (.putfield 26, 3) := by decide +kernel
theorem dX10_init_46 : decode cX10_init 46 = .ok (.aload_n 0, 1) := by decide +kernel
theorem dX10_init_47 : decode cX10_init 47 = .ok (.bipush 12, 2) := by decide +kernel
theorem dX10_init_49 : decode cX10_init 49 = .ok (.newarray .int, 2) := by decide +kernel
theorem dX10_init_51 : decode cX10_init 51 = .ok (.putfield 30, 3) := by decide +kernel
theorem dX10_init_54 : decode cX10_init 54 = .ok (.aload_n 0, 1) := by decide +kernel
theorem dX10_init_55 : decode cX10_init 55 = .ok (.bipush 12, 2) := by decide +kernel
theorem dX10_init_57 : decode cX10_init 57 = .ok (.newarray .int, 2) := by decide +kernel
theorem dX10_init_59 : decode cX10_init 59 = .ok (.putfield 33, 3) := by decide +kernel
theorem dX10_init_62 : decode cX10_init 62 = .ok (.aload_n 0, 1) := by decide +kernel
theorem dX10_init_63 : decode cX10_init 63 = .ok (.bipush 12, 2) := by decide +kernel
theorem dX10_init_65 : decode cX10_init 65 = .ok (.newarray .int, 2) := by decide +kernel
theorem dX10_init_67 : decode cX10_init 67 = .ok (.putfield 36, 3) := by decide +kernel
theorem dX10_init_70 : decode cX10_init 70 = .ok (.aload_n 0, 1) := by decide +kernel
theorem dX10_init_71 : decode cX10_init 71 = .ok (.bipush 12, 2) := by decide +kernel
theorem dX10_init_73 : decode cX10_init 73 = .ok (.newarray .int, 2) := by decide +kernel
theorem dX10_init_75 : decode cX10_init 75 = .ok (.putfield 39, 3) := by decide +kernel
theorem dX10_init_78 : decode cX10_init 78 = .ok (.aload_n 0, 1) := by decide +kernel
theorem dX10_init_79 : decode cX10_init 79 = .ok (.bipush 12, 2) := by decide +kernel
theorem dX10_init_81 : decode cX10_init 81 = .ok (.newarray .int, 2) := by decide +kernel
theorem dX10_init_83 : decode cX10_init 83 = .ok (.putfield 42, 3) := by decide +kernel
theorem dX10_init_86 : decode cX10_init 86 = .ok (.aload_n 0, 1) := by decide +kernel
theorem dX10_init_87 : decode cX10_init 87 = .ok (.bipush 12, 2) := by decide +kernel
theorem dX10_init_89 : decode cX10_init 89 = .ok (.newarray .int, 2) := by decide +kernel
theorem dX10_init_91 : decode cX10_init 91 = .ok (.putfield 45, 3) := by decide +kernel
theorem dX10_init_94 : decode cX10_init 94 = .ok (.aload_n 0, 1) := by decide +kernel
theorem dX10_init_95 : decode cX10_init 95 = .ok (.sipush 288, 3) := by decide +kernel
theorem dX10_init_98 : decode cX10_init 98 = .ok (.newarray .boolean, 2) := by decide +kernel
theorem dX10_init_100 : decode cX10_init 100 = .ok (.putfield 48, 3) := by decide +kernel
theorem dX10_init_103 : decode cX10_init 103 = .ok (.aload_n 0, 1) := by decide +kernel
theorem dX10_init_104 : decode cX10_init 104 = .ok (.sipush 288, 3) := by decide +kernel
theorem dX10_init_107 : decode cX10_init 107 = .ok (.newarray .boolean, 2) := by decide +kernel
theorem dX10_init_109 : decode cX10_init 109 = .ok (.putfield 51, 3) := by decide +kernel
theorem dX10_init_112 : decode cX10_init 112 = .ok (.aload_n 0, 1) := by decide +kernel
theorem dX10_init_113 : decode cX10_init 113 = .ok (.sipush 1152, 3) := by decide +kernel
theorem dX10_init_116 : decode cX10_init 116 = .ok (.newarray .boolean, 2) := by decide +kernel
theorem dX10_init_118 : decode cX10_init 118 = .ok (.putfield 54, 3) := by decide +kernel
theorem dX10_init_121 : decode cX10_init 121 = .ok (.aload_n 0, 1) := by decide +kernel
theorem dX10_init_122 : decode cX10_init 122 = .ok (.sipush 1152, 3) := by decide +kernel
theorem dX10_init_125 : decode cX10_init 125 = .ok (.newarray .int, 2) := by decide +kernel
theorem dX10_init_127 : decode cX10_init 127 = .ok (.putfield 57, 3) := by decide +kernel
theorem dX10_init_130 : decode cX10_init 130 = .ok (.aload_n 0, 1) := by decide +kernel
theorem dX10_init_131 : decode cX10_init 131 = .ok (.sipush 1152, 3) := by decide +kernel
theorem dX10_init_134 : decode cX10_init 134 = .ok (.newarray .int, 2) := by decide +kernel
theorem dX10_init_136 : decode cX10_init 136 = .ok (.putfield 60, 3) := by decide +kernel
theorem dX10_init_139 : decode cX10_init 139 = .ok (.aload_n 0, 1) := by decide +kernel
theorem dX10_init_140 : decode cX10_init 140 = .ok (.sipush 144, 3) := by decide +kernel
theorem dX10_init_143 : decode cX10_init 143 = .ok (.newarray .boolean, 2) := by decide +kernel
theorem dX10_init_145 : decode cX10_init 145 = .ok (.putfield 63, 3) := by decide +kernel
theorem dX10_init_148 : decode cX10_init 148 = .ok (.aload_n 0, 1) := by decide +kernel
theorem dX10_init_149 : decode cX10_init 149 = .ok (.sipush 144, 3) := by decide +kernel
theorem dX10_init_152 : decode cX10_init 152 = .ok (.newarray .boolean, 2) := by decide +kernel
theorem dX10_init_154 : decode cX10_init 154 = .ok (.putfield 66, 3) := by decide +kernel
theorem dX10_init_157 : decode cX10_init 157 = .ok (.aload_n 0, 1) := by decide +kernel
theorem dX10_init_158 : decode cX10_init 158 = .ok (.sipush 144, 3) := by decide +kernel
theorem dX10_init_161 : decode cX10_init 161 = .ok (.newarray .boolean, 2) := by decide +kernel
theorem dX10_init_163 : decode cX10_init 163 = .ok (.putfield 69, 3) := by decide +kernel
theorem dX10_init_166 : decode cX10_init 166 = .ok (.aload_n 0, 1) := by decide +kernel
theorem dX10_init_167 : decode cX10_init 167 = .ok (.sipush 144, 3) := by decide +kernel
theorem dX10_init_170 : decode cX10_init 170 = .ok (.newarray .int, 2) := by decide +kernel
theorem dX10_init_172 : decode cX10_init 172 = .ok (.putfield 72, 3) := by decide +kernel
theorem dX10_init_175 : decode cX10_init 175 = .ok (.aload_n 0, 1) := by decide +kernel
theorem dX10_init_176 : decode cX10_init 176 = .ok (.sipush 144, 3) := by decide +kernel
theorem dX10_init_179 : decode cX10_init 179 = .ok (.newarray .int, 2) := by decide +kernel
theorem dX10_init_181 : decode cX10_init 181 = .ok (.putfield 75, 3) := by decide +kernel
theorem dX10_init_184 : decode cX10_init 184 = .ok (.aload_n 0, 1) := by decide +kernel
theorem dX10_init_185 : decode cX10_init 185 = .ok (.sipush 144, 3) := by decide +kernel
theorem dX10_init_188 : decode cX10_init 188 = .ok (.newarray .int, 2) := by decide +kernel
theorem dX10_init_190 : decode cX10_init 190 = .ok (.putfield 78, 3) := by decide +kernel
theorem dX10_init_193 : decode cX10_init 193 = .ok (.aload_n 0, 1) := by decide +kernel
theorem dX10_init_194 : decode cX10_init 194 = .ok (.sipush 144, 3) := by decide +kernel
theorem dX10_init_197 : decode cX10_init 197 = .ok (.newarray .int, 2) := by decide +kernel
theorem dX10_init_199 : decode cX10_init 199 = .ok (.putfield 81, 3) := by decide +kernel
theorem dX10_init_202 : decode cX10_init 202 = .ok (.aload_n 0, 1) := by decide +kernel
theorem dX10_init_203 : decode cX10_init 203 = .ok (.bipush 12, 2) := by decide +kernel
theorem dX10_init_205 : decode cX10_init 205 = .ok (.newarray .int, 2) := by decide +kernel
theorem dX10_init_207 : decode cX10_init 207 = .ok (.putfield 84, 3) := by decide +kernel
theorem dX10_init_210 : decode cX10_init 210 = .ok (.aload_n 0, 1) := by decide +kernel
theorem dX10_init_211 : decode cX10_init 211 = .ok (.bipush 12, 2) := by decide +kernel
theorem dX10_init_213 : decode cX10_init 213 = .ok (.newarray .int, 2) := by decide +kernel
theorem dX10_init_215 : decode cX10_init 215 = .ok (.putfield 87, 3) := by decide +kernel
theorem dX10_init_218 : decode cX10_init 218 = .ok (.aload_n 0, 1) := by decide +kernel
theorem dX10_init_219 : decode cX10_init 219 = .ok (.sipush 400, 3) := by decide +kernel
theorem dX10_init_222 : decode cX10_init 222 = .ok (.newarray .int, 2) := by decide +kernel
theorem dX10_init_224 : decode cX10_init 224 = .ok (.putfield 90, 3) := by decide +kernel
theorem dX10_init_227 : decode cX10_init 227 = .ok (.aload_n 0, 1) := by decide +kernel
theorem dX10_init_228 : decode cX10_init 228 = .ok (.sipush 400, 3) := by decide +kernel
theorem dX10_init_231 : decode cX10_init 231 = .ok (.newarray .int, 2) := by decide +kernel
theorem dX10_init_233 : decode cX10_init 233 = .ok (.putfield 93, 3) := by decide +kernel
theorem dX10_init_236 : decode cX10_init 236 = .ok (.aload_n 0, 1) := by decide +kernel
theorem dX10_init_237 : decode cX10_init 237 = .ok (.sipush 400, 3) := by decide +kernel
theorem dX10_init_240 : decode cX10_init 240 = .ok (.newarray .int, 2) := by decide +kernel
theorem dX10_init_242 : decode cX10_init 242 = .ok (.putfield 96, 3) := by decide +kernel
theorem dX10_init_245 : decode cX10_init 245 = .ok (.aload_n 0, 1) := by decide +kernel
theorem dX10_init_246 : decode cX10_init 246 = .ok (.sipush 400, 3) := by decide +kernel
theorem dX10_init_249 : decode cX10_init 249 = .ok (.newarray .int, 2) := by decide +kernel
theorem dX10_init_251 : decode cX10_init 251 = .ok (.putfield 99, 3) := by decide +kernel
theorem dX10_init_254 : decode cX10_init 254 = .ok (.aload_n 0, 1) := by decide +kernel
theorem dX10_init_255 : decode cX10_init 255 = .ok (.sipush 400, 3) := by decide +kernel
theorem dX10_init_258 : decode cX10_init 258 = .ok (.newarray .int, 2) := by decide +kernel
theorem dX10_init_260 : decode cX10_init 260 = .ok (.putfield 102, 3) := by decide +kernel
theorem dX10_init_263 : decode cX10_init 263 = .ok (.aload_n 0, 1) := by decide +kernel
theorem dX10_init_264 : decode cX10_init 264 = .ok (.sipush 400, 3) := by decide +kernel
theorem dX10_init_267 : decode cX10_init 267 = .ok (.newarray .int, 2) := by decide +kernel
theorem dX10_init_269 : decode cX10_init 269 = .ok (.putfield 105, 3) := by decide +kernel
theorem dX10_init_272 : decode cX10_init 272 = .ok (.aload_n 0, 1) := by decide +kernel
theorem dX10_init_273 : decode cX10_init 273 = .ok (.sipush 400, 3) := by decide +kernel
theorem dX10_init_276 : decode cX10_init 276 = .ok (.newarray .boolean, 2) := by decide +kernel
theorem dX10_init_278 : decode cX10_init 278 = .ok (.putfield 108, 3) := by decide +kernel
theorem dX10_init_281 : decode cX10_init 281 = .ok (.aload_n 0, 1) := by decide +kernel
theorem dX10_init_282 : decode cX10_init 282 = .ok (.bipush 12, 2) := by decide +kernel
theorem dX10_init_284 : decode cX10_init 284 = .ok (.newarray .boolean, 2) := by decide +kernel
theorem dX10_init_286 : decode cX10_init 286 = .ok (.putfield 111, 3) := by decide +kernel
theorem dX10_init_289 : decode cX10_init 289 = .ok (.aload_n 0, 1) := by decide +kernel
theorem dX10_init_290 : decode cX10_init 290 = .ok (.bipush 12, 2) := by decide +kernel
theorem dX10_init_292 : decode cX10_init 292 = .ok (.newarray .int, 2) := by decide +kernel
theorem dX10_init_294 : decode cX10_init 294 = .ok (.putfield 114, 3) := by decide +kernel
theorem dX10_init_297 : decode cX10_init 297 = .ok (.aload_n 0, 1) := by decide +kernel
theorem dX10_init_298 : decode cX10_init 298 = .ok (.bipush 12, 2) := by decide +kernel
theorem dX10_init_300 : decode cX10_init 300 = .ok (.newarray .int, 2) := by decide +kernel
theorem dX10_init_302 : decode cX10_init 302 = .ok (.putfield 117, 3) := by decide +kernel
theorem dX10_init_305 : decode cX10_init 305 = .ok (.return_, 1) := by decide +kernel
theorem dX10_in_0 : decode cX10_in 0 = .ok (.iload_n 0, 1) := by decide +kernel
theorem dX10_in_1 : decode cX10_in 1 = .ok (.iload_n 1, 1) := by decide +kernel
theorem dX10_in_2 : decode cX10_in 2 = .ok (.if_icmp .lt 12, 3) := by decide +kernel
theorem dX10_in_5 : decode cX10_in 5 = .ok (.iload_n 0, 1) := by decide +kernel
theorem dX10_in_6 : decode cX10_in 6 = .ok (.iload_n 2, 1) := by decide +kernel
theorem dX10_in_7 : decode cX10_in 7 = .ok (.if_icmp .gt 7, 3) := by decide +kernel
theorem dX10_in_10 : decode cX10_in 10 = .ok (.iconst 1, 1) := by decide +kernel
theorem dX10_in_11 : decode cX10_in 11 = .ok (.goto 4, 3) := by decide +kernel
theorem dX10_in_14 : decode cX10_in 14 = .ok (.iconst 0, 1) := by decide +kernel
theorem dX10_in_15 : decode cX10_in 15 = .ok (.ireturn, 1) := by decide +kernel
theorem dX10_valueOf_0 : decode cX10_valueOf 0 = .ok (.aload_n 0, 1) := by decide +kernel
theorem dX10_valueOf_1 : decode cX10_valueOf 1 = .ok (.getfield 123, 3) := by decide +kernel
theorem dX10_valueOf_4 : decode cX10_valueOf 4 = .ok (.iconst 4, 1) := by decide +kernel
theorem dX10_valueOf_5 : decode cX10_valueOf 5 = .ok (.iload_n 1, 1) := by decide +kernel
theorem dX10_valueOf_6 : decode cX10_valueOf 6 = .ok (.imul, 1) := by decide +kernel
theorem dX10_valueOf_7 : decode cX10_valueOf 7 = .ok (.iadd, 1) := by decide +kernel
theorem dX10_valueOf_8 : decode cX10_valueOf 8 = .ok (.iload_n 2, 1) := by decide +kernel
theorem dX10_valueOf_9 : decode cX10_valueOf 9 = .ok (.iadd, 1) := by decide +kernel
theorem dX10_valueOf_10 : decode cX10_valueOf 10 = .ok (.ldc 126, 2) := by decide +kernel
theorem dX10_valueOf_12 : decode cX10_valueOf 12 = .ok (.imul, 1) := by decide +kernel
theorem dX10_valueOf_13 : decode cX10_valueOf 13 = .ok (.sipush 12345, 3) := by decide +kernel
theorem dX10_valueOf_16 : decode cX10_valueOf 16 = .ok (.iadd, 1) := by decide +kernel
theorem dX10_valueOf_17 : decode cX10_valueOf 17 = .ok (.istore_n 3, 1) := by decide +kernel
theorem dX10_valueOf_18 : decode cX10_valueOf 18 = .ok (.iload_n 3, 1) := by decide +kernel
theorem dX10_valueOf_19 : decode cX10_valueOf 19 = .ok (.iload_n 3, 1) := by decide +kernel
theorem dX10_valueOf_20 : decode cX10_valueOf 20 = .ok (.bipush 15, 2) := by decide +kernel
theorem dX10_valueOf_22 : decode cX10_valueOf 22 = .ok (.iushr, 1) := by decide +kernel
theorem dX10_valueOf_23 : decode cX10_valueOf 23 = .ok (.ixor, 1) := by decide +kernel
theorem dX10_valueOf_24 : decode cX10_valueOf 24 = .ok (.ireturn, 1) := by decide +kernel
set_option maxRecDepth 20000 in
theorem ggX10_sumOf_X10_valueOf : GoodIn wsX10_sumOf wsX10_valueOf := goodIn_r _ [7, 8, 9, 10, 11, 12, 13, 14, 15, 16, 17, 18, 19, 20, 21, 22, 23, 24, 25, 26, 27, 28, 29, 30, 31, 32, 33, 34, 35, 36, 37, 38, 39, 40, 41, 42, 43, 44, 45, 46, 47, 48, 49, 50, 51, 52, 53, 54] (by decide +kernel) (by decide +kernel)
set_option maxRecDepth 20000 in
theorem gX10_sumOf_X10_valueOf : GoodIn wsX10_sumOf (wsV RX10 128 RX10 yX10_valueOf wsX10_valueOf) := goodIn_app (goodIn_of _ (by decide +kernel)) ggX10_sumOf_X10_valueOf
theorem dX10_sumOf_0 : decode cX10_sumOf 0 = .ok (.iconst 0, 1) := by decide +kernel
theorem dX10_sumOf_1 : decode cX10_sumOf 1 = .ok (.istore_n 2, 1) := by decide +kernel
theorem dX10_sumOf_2 : decode cX10_sumOf 2 = .ok (.iconst 0, 1) := by decide +kernel
theorem dX10_sumOf_3 : decode cX10_sumOf 3 = .ok (.istore_n 3, 1) := by decide +kernel
theorem dX10_sumOf_4 : decode cX10_sumOf 4 = .ok (.iload_n 3, 1) := by decide +kernel
theorem dX10_sumOf_5 : decode cX10_sumOf 5 = .ok (.aload_n 0, 1) := by decide +kernel
theorem dX10_sumOf_6 : decode cX10_sumOf 6 = .ok (.getfield 13, 3) := by decide +kernel
theorem dX10_sumOf_9 : decode cX10_sumOf 9 = .ok (.if_icmp .ge 21, 3) := by decide +kernel
theorem dX10_sumOf_12 : decode cX10_sumOf 12 = .ok (.iload_n 2, 1) := by decide +kernel
theorem dX10_sumOf_13 : decode cX10_sumOf 13 = .ok (.ldc 127, 2) := by decide +kernel
theorem dX10_sumOf_15 : decode cX10_sumOf 15 = .ok (.imul, 1) := by decide +kernel
theorem dX10_sumOf_16 : decode cX10_sumOf 16 = .ok (.aload_n 0, 1) := by decide +kernel
theorem dX10_sumOf_17 : decode cX10_sumOf 17 = .ok (.iload_n 1, 1) := by decide +kernel
theorem dX10_sumOf_18 : decode cX10_sumOf 18 = .ok (.iload_n 3, 1) := by decide +kernel
theorem dX10_sumOf_19 : decode cX10_sumOf 19 = .ok (.invokevirtual 128, 3) := by decide +kernel
theorem dX10_sumOf_22 : decode cX10_sumOf 22 = .ok (.iadd, 1) := by decide +kernel
theorem dX10_sumOf_23 : decode cX10_sumOf 23 = .ok (.istore_n 2, 1) := by decide +kernel
theorem dX10_sumOf_24 : decode cX10_sumOf 24 = .ok (.iinc 3 1, 3) := by decide +kernel
theorem dX10_sumOf_27 : decode cX10_sumOf 27 = .ok (.goto (-23), 3) := by decide +kernel
theorem dX10_sumOf_30 : decode cX10_sumOf 30 = .ok (.iload_n 2, 1) := by decide +kernel
theorem dX10_sumOf_31 : decode cX10_sumOf 31 = .ok (.ireturn, 1) := by decide +kernel
set_option maxRecDepth 20000 in
theorem ggX10_isBlock_X10_in : GoodIn wsX10_isBlock wsX10_in := goodIn_r _ [6] (by decide +kernel) (by decide +kernel)
set_option maxRecDepth 20000 in
theorem gX10_isBlock_X10_in : GoodIn wsX10_isBlock (va_wsS RX10 132 yX10_in wsX10_in) := goodIn_app (goodIn_of _ (by decide +kernel)) ggX10_isBlock_X10_in
theorem dX10_isBlock_0 : decode cX10_isBlock 0 = .ok (.iload_n 1, 1) := by decide +kernel
theorem dX10_isBlock_1 : decode cX10_isBlock 1 = .ok (.iconst 0, 1) := by decide +kernel
theorem dX10_isBlock_2 : decode cX10_isBlock 2 = .ok (.aload_n 0, 1) := by decide +kernel
theorem dX10_isBlock_3 : decode cX10_isBlock 3 = .ok (.getfield 7, 3) := by decide +kernel
theorem dX10_isBlock_6 : decode cX10_isBlock 6 = .ok (.iconst 1, 1) := by decide +kernel
theorem dX10_isBlock_7 : decode cX10_isBlock 7 = .ok (.isub, 1) := by decide +kernel
theorem dX10_isBlock_8 : decode cX10_isBlock 8 = .ok (.invokestatic 132, 3) := by decide +kernel
theorem dX10_isBlock_11 : decode cX10_isBlock 11 = .ok (.ifCond .eq 21, 3) := by decide +kernel
theorem dX10_isBlock_14 : decode cX10_isBlock 14 = .ok (.iload_n 2, 1) := by decide +kernel
theorem dX10_isBlock_15 : decode cX10_isBlock 15 = .ok (.iconst 0, 1) := by decide +kernel
theorem dX10_isBlock_16 : decode cX10_isBlock 16 = .ok (.aload_n 0, 1) := by decide +kernel
theorem dX10_isBlock_17 : decode cX10_isBlock 17 = .ok (.getfield 13, 3) := by decide +kernel
theorem dX10_isBlock_20 : decode cX10_isBlock 20 = .ok (.iconst 1, 1) := by decide +kernel
theorem dX10_isBlock_21 : decode cX10_isBlock 21 = .ok (.isub, 1) := by decide +kernel
theorem dX10_isBlock_22 : decode cX10_isBlock 22 = .ok (.invokestatic 132, 3) := by decide +kernel
theorem dX10_isBlock_25 : decode cX10_isBlock 25 = .ok (.ifCond .eq 7, 3) := by decide +kernel
theorem dX10_isBlock_28 : decode cX10_isBlock 28 = .ok (.iconst 1, 1) := by decide +kernel
theorem dX10_isBlock_29 : decode cX10_isBlock 29 = .ok (.goto 4, 3) := by decide +kernel
theorem dX10_isBlock_32 : decode cX10_isBlock 32 = .ok (.iconst 0, 1) := by decide +kernel
theorem dX10_isBlock_33 : decode cX10_isBlock 33 = .ok (.ireturn, 1) := by decide +kernel
set_option maxRecDepth 20000 in
theorem ggX10_file_X10_in : GoodIn wsX10_file wsX10_in := goodIn_r _ [9] (by decide +kernel) (by decide +kernel)
set_option maxRecDepth 20000 in
theorem gX10_file_X10_in : GoodIn wsX10_file (va_wsS RX10 132 yX10_in wsX10_in) := goodIn_app (goodIn_of _ (by decide +kernel)) ggX10_file_X10_in
theorem dX10_file_0 : decode cX10_file 0 = .ok (.aload_n 0, 1) := by decide +kernel
theorem dX10_file_1 : decode cX10_file 1 = .ok (.iconst 0, 1) := by decide +kernel
theorem dX10_file_2 : decode cX10_file 2 = .ok (.putfield 120, 3) := by decide +kernel
theorem dX10_file_5 : decode cX10_file 5 = .ok (.iload_n 1, 1) := by decide +kernel
theorem dX10_file_6 : decode cX10_file 6 = .ok (.iconst 1, 1) := by decide +kernel
theorem dX10_file_7 : decode cX10_file 7 = .ok (.bipush 24, 2) := by decide +kernel
theorem dX10_file_9 : decode cX10_file 9 = .ok (.invokestatic 132, 3) := by decide +kernel
theorem dX10_file_12 : decode cX10_file 12 = .ok (.ifCond .eq 19, 3) := by decide +kernel
theorem dX10_file_15 : decode cX10_file 15 = .ok (.iload_n 2, 1) := by decide +kernel
theorem dX10_file_16 : decode cX10_file 16 = .ok (.iconst 1, 1) := by decide +kernel
theorem dX10_file_17 : decode cX10_file 17 = .ok (.iconst 4, 1) := by decide +kernel
theorem dX10_file_18 : decode cX10_file 18 = .ok (.invokestatic 132, 3) := by decide +kernel
theorem dX10_file_21 : decode cX10_file 21 = .ok (.ifCond .eq 10, 3) := by decide +kernel
theorem dX10_file_24 : decode cX10_file 24 = .ok (.aload_n 0, 1) := by decide +kernel
theorem dX10_file_25 : decode cX10_file 25 = .ok (.getfield 136, 3) := by decide +kernel
theorem dX10_file_28 : decode cX10_file 28 = .ok (.ifCond .le 5, 3) := by decide +kernel
theorem dX10_file_31 : decode cX10_file 31 = .ok (.iconst 0, 1) := by decide +kernel
theorem dX10_file_32 : decode cX10_file 32 = .ok (.ireturn, 1) := by decide +kernel
theorem dX10_file_33 : decode cX10_file 33 = .ok (.aload_n 0, 1) := by decide +kernel
theorem dX10_file_34 : decode cX10_file 34 = .ok (.iload_n 1, 1) := by decide +kernel
theorem dX10_file_35 : decode cX10_file 35 = .ok (.putfield 7, 3) := by decide +kernel
theorem dX10_file_38 : decode cX10_file 38 = .ok (.aload_n 0, 1) := by decide +kernel
theorem dX10_file_39 : decode cX10_file 39 = .ok (.iload_n 2, 1) := by decide +kernel
theorem dX10_file_40 : decode cX10_file 40 = .ok (.putfield 13, 3) := by decide +kernel
theorem dX10_file_43 : decode cX10_file 43 = .ok (.aload_n 0, 1) := by decide +kernel
theorem dX10_file_44 : decode cX10_file 44 = .ok (.iload_n 3, 1) := by decide +kernel
theorem dX10_file_45 : decode cX10_file 45 = .ok (.putfield 123, 3) := by decide +kernel
theorem dX10_file_48 : decode cX10_file 48 = .ok (.iconst 1, 1) := by decide +kernel
theorem dX10_file_49 : decode cX10_file 49 = .ok (.ireturn, 1) := by decide +kernel
set_option maxRecDepth 20000 in
theorem ggX10_value_X10_isBlock : GoodIn wsX10_value wsX10_isBlock := goodIn_r _ [6, 7, 8, 9, 10, 5, 11, 18, 19, 20, 21, 22, 23, 24, 25, 26, 27, 28, 29, 30, 31, 32, 33, 34, 35, 36, 37, 38, 39, 40, 41, 42, 43, 44, 45, 46, 47, 48, 49, 50, 51, 52, 53, 54, 55, 56, 57, 58, 59, 60, 61, 62] (by decide +kernel) (by decide +kernel)
set_option maxRecDepth 20000 in
theorem gX10_value_X10_isBlock : GoodIn wsX10_value (wsV RX10 139 RX10 yX10_isBlock wsX10_isBlock) := goodIn_app (goodIn_of _ (by decide +kernel)) ggX10_value_X10_isBlock
set_option maxRecDepth 20000 in
theorem ggX10_value_X10_valueOf : GoodIn wsX10_value wsX10_valueOf := goodIn_r _ [15, 16, 17, 18, 19, 20, 21, 22, 23, 24, 25, 26, 27, 28, 29, 30, 31, 32, 33, 34, 35, 36, 37, 38, 39, 40, 41, 42, 43, 44, 45, 46, 47, 48, 49, 50, 51, 52, 53, 54, 55, 56, 57, 58, 59, 60, 61, 62] (by decide +kernel) (by decide +kernel)
set_option maxRecDepth 20000 in
theorem gX10_value_X10_valueOf : GoodIn wsX10_value (wsV RX10 128 RX10 yX10_valueOf wsX10_valueOf) := goodIn_app (goodIn_of _ (by decide +kernel)) ggX10_value_X10_valueOf
theorem dX10_value_0 : decode cX10_value 0 = .ok (.aload_n 0, 1) := by decide +kernel
theorem dX10_value_1 : decode cX10_value 1 = .ok (.iconst 0, 1) := by decide +kernel
theorem dX10_value_2 : decode cX10_value 2 = .ok (.putfield 120, 3) := by decide +kernel
theorem dX10_value_5 : decode cX10_value 5 = .ok (.aload_n 0, 1) := by decide +kernel
theorem dX10_value_6 : decode cX10_value 6 = .ok (.iload_n 1, 1) := by decide +kernel
theorem dX10_value_7 : decode cX10_value 7 = .ok (.iload_n 2, 1) := by decide +kernel
theorem dX10_value_8 : decode cX10_value 8 = .ok (.invokevirtual 139, 3) := by decide +kernel
theorem dX10_value_11 : decode cX10_value 11 = .ok (.ifCond .eq 12, 3) := by decide +kernel
theorem dX10_value_14 : decode cX10_value 14 = .ok (.aload_n 0, 1) := by decide +kernel
theorem dX10_value_15 : decode cX10_value 15 = .ok (.iload_n 1, 1) := by decide +kernel
theorem dX10_value_16 : decode cX10_value 16 = .ok (.iload_n 2, 1) := by decide +kernel
theorem dX10_value_17 : decode cX10_value 17 = .ok (.invokevirtual 128, 3) := by decide +kernel
theorem dX10_value_20 : decode cX10_value 20 = .ok (.goto 4, 3) := by decide +kernel
theorem dX10_value_23 : decode cX10_value 23 = .ok (.iconst 0, 1) := by decide +kernel
theorem dX10_value_24 : decode cX10_value 24 = .ok (.ireturn, 1) := by decide +kernel
set_option maxRecDepth 20000 in
theorem ggX10_sum_X10_isBlock : GoodIn wsX10_sum wsX10_isBlock := goodIn_r _ [6, 7, 8, 9, 10, 5, 11, 23, 24, 25, 26, 27, 28, 29, 30, 31, 32, 33, 34, 35, 36, 37, 38, 39, 40, 41, 42, 43, 44, 45, 46, 47, 48, 49, 50, 51, 52, 53, 54, 55, 56, 57, 58, 59, 60, 61, 62, 63, 64, 65, 66, 67] (by decide +kernel) (by decide +kernel)
set_option maxRecDepth 20000 in
theorem gX10_sum_X10_isBlock : GoodIn wsX10_sum (wsV RX10 139 RX10 yX10_isBlock wsX10_isBlock) := goodIn_app (goodIn_of _ (by decide +kernel)) ggX10_sum_X10_isBlock
set_option maxRecDepth 20000 in
theorem ggX10_sum_X10_sumOf : GoodIn wsX10_sum wsX10_sumOf := goodIn_r _ [15, 8, 16, 17, 18, 19, 5, 20, 21, 22, 23, 24, 25, 26, 27, 28, 29, 30, 31, 32, 33, 34, 35, 36, 37, 38, 39, 40, 41, 42, 43, 44, 45, 46, 47, 48, 49, 50, 51, 52, 53, 54, 55, 56, 57, 58, 59, 60, 61, 62, 63, 64, 65, 66, 67] (by decide +kernel) (by decide +kernel)
set_option maxRecDepth 20000 in
theorem gX10_sum_X10_sumOf : GoodIn wsX10_sum (wsV RX10 143 RX10 yX10_sumOf wsX10_sumOf) := goodIn_app (goodIn_of _ (by decide +kernel)) ggX10_sum_X10_sumOf
theorem dX10_sum_0 : decode cX10_sum 0 = .ok (.aload_n 0, 1) := by decide +kernel
theorem dX10_sum_1 : decode cX10_sum 1 = .ok (.iconst 0, 1) := by decide +kernel
theorem dX10_sum_2 : decode cX10_sum 2 = .ok (.putfield 120, 3) := by decide +kernel
theorem dX10_sum_5 : decode cX10_sum 5 = .ok (.aload_n 0, 1) := by decide +kernel
theorem dX10_sum_6 : decode cX10_sum 6 = .ok (.iload_n 1, 1) := by decide +kernel
theorem dX10_sum_7 : decode cX10_sum 7 = .ok (.iconst 0, 1) := by decide +kernel
theorem dX10_sum_8 : decode cX10_sum 8 = .ok (.invokevirtual 139, 3) := by decide +kernel
theorem dX10_sum_11 : decode cX10_sum 11 = .ok (.ifCond .eq 11, 3) := by decide +kernel
theorem dX10_sum_14 : decode cX10_sum 14 = .ok (.aload_n 0, 1) := by decide +kernel
theorem dX10_sum_15 : decode cX10_sum 15 = .ok (.iload_n 1, 1) := by decide +kernel
theorem dX10_sum_16 : decode cX10_sum 16 = .ok (.invokevirtual 143, 3) := by decide +kernel
theorem dX10_sum_19 : decode cX10_sum 19 = .ok (.goto 4, 3) := by decide +kernel
theorem dX10_sum_22 : decode cX10_sum 22 = .ok (.iconst 0, 1) := by decide +kernel
theorem dX10_sum_23 : decode cX10_sum 23 = .ok (.ireturn, 1) := by decide +kernel
set_option maxRecDepth 20000 in
theorem ggX10_isPeer_X10_in : GoodIn wsX10_isPeer wsX10_in := goodIn_r _ [5] (by decide +kernel) (by decide +kernel)
set_option maxRecDepth 20000 in
theorem gX10_isPeer_X10_in : GoodIn wsX10_isPeer (va_wsS RX10 132 yX10_in wsX10_in) := goodIn_app (goodIn_of _ (by decide +kernel)) ggX10_isPeer_X10_in
theorem dX10_isPeer_0 : decode cX10_isPeer 0 = .ok (.iload_n 1, 1) := by decide +kernel
theorem dX10_isPeer_1 : decode cX10_isPeer 1 = .ok (.iconst 0, 1) := by decide +kernel
theorem dX10_isPeer_2 : decode cX10_isPeer 2 = .ok (.aload_n 0, 1) := by decide +kernel
theorem dX10_isPeer_3 : decode cX10_isPeer 3 = .ok (.getfield 136, 3) := by decide +kernel
theorem dX10_isPeer_6 : decode cX10_isPeer 6 = .ok (.iconst 1, 1) := by decide +kernel
theorem dX10_isPeer_7 : decode cX10_isPeer 7 = .ok (.isub, 1) := by decide +kernel
theorem dX10_isPeer_8 : decode cX10_isPeer 8 = .ok (.invokestatic 132, 3) := by decide +kernel
theorem dX10_isPeer_11 : decode cX10_isPeer 11 = .ok (.ireturn, 1) := by decide +kernel
set_option maxRecDepth 20000 in
theorem ggX10_isTwo_X10_isPeer : GoodIn wsX10_isTwo wsX10_isPeer := goodIn_r _ [5, 6, 7, 8, 4, 9, 10, 11, 12, 13, 14, 15, 16, 17, 18, 19, 20, 21, 22, 23, 24, 25, 26, 27, 28, 29, 30, 31, 32, 33, 34, 35, 36, 37, 38, 39, 40, 41, 42, 43, 44, 45, 46, 47, 48, 49, 50, 51, 52, 53, 54] (by decide +kernel) (by decide +kernel)
set_option maxRecDepth 20000 in
theorem gX10_isTwo_X10_isPeer : GoodIn wsX10_isTwo (wsV RX10 147 RX10 yX10_isPeer wsX10_isPeer) := goodIn_app (goodIn_of _ (by decide +kernel)) ggX10_isTwo_X10_isPeer
theorem dX10_isTwo_0 : decode cX10_isTwo 0 = .ok (.aload_n 0, 1) := by decide +kernel
theorem dX10_isTwo_1 : decode cX10_isTwo 1 = .ok (.iload_n 1, 1) := by decide +kernel
theorem dX10_isTwo_2 : decode cX10_isTwo 2 = .ok (.invokevirtual 147, 3) := by decide +kernel
theorem dX10_isTwo_5 : decode cX10_isTwo 5 = .ok (.ifCond .eq 20, 3) := by decide +kernel
theorem dX10_isTwo_8 : decode cX10_isTwo 8 = .ok (.aload_n 0, 1) := by decide +kernel
theorem dX10_isTwo_9 : decode cX10_isTwo 9 = .ok (.iload_n 2, 1) := by decide +kernel
theorem dX10_isTwo_10 : decode cX10_isTwo 10 = .ok (.invokevirtual 147, 3) := by decide +kernel
theorem dX10_isTwo_13 : decode cX10_isTwo 13 = .ok (.ifCond .eq 12, 3) := by decide +kernel
theorem dX10_isTwo_16 : decode cX10_isTwo 16 = .ok (.iload_n 1, 1) := by decide +kernel
theorem dX10_isTwo_17 : decode cX10_isTwo 17 = .ok (.iload_n 2, 1) := by decide +kernel
theorem dX10_isTwo_18 : decode cX10_isTwo 18 = .ok (.if_icmp .eq 7, 3) := by decide +kernel
theorem dX10_isTwo_21 : decode cX10_isTwo 21 = .ok (.iconst 1, 1) := by decide +kernel
theorem dX10_isTwo_22 : decode cX10_isTwo 22 = .ok (.goto 4, 3) := by decide +kernel
theorem dX10_isTwo_25 : decode cX10_isTwo 25 = .ok (.iconst 0, 1) := by decide +kernel
theorem dX10_isTwo_26 : decode cX10_isTwo 26 = .ok (.ireturn, 1) := by decide +kernel
theorem dX10_two_0 : decode cX10_two 0 = .ok (.bipush 12, 2) := by decide +kernel
theorem dX10_two_2 : decode cX10_two 2 = .ok (.iload_n 0, 1) := by decide +kernel
theorem dX10_two_3 : decode cX10_two 3 = .ok (.imul, 1) := by decide +kernel
theorem dX10_two_4 : decode cX10_two 4 = .ok (.iload_n 1, 1) := by decide +kernel
theorem dX10_two_5 : decode cX10_two 5 = .ok (.iadd, 1) := by decide +kernel
theorem dX10_two_6 : decode cX10_two 6 = .ok (.ireturn, 1) := by decide +kernel
theorem dX10_cell_0 : decode cX10_cell 0 = .ok (.bipush 96, 2) := by decide +kernel
theorem dX10_cell_2 : decode cX10_cell 2 = .ok (.iload_n 0, 1) := by decide +kernel
theorem dX10_cell_3 : decode cX10_cell 3 = .ok (.imul, 1) := by decide +kernel
theorem dX10_cell_4 : decode cX10_cell 4 = .ok (.iconst 4, 1) := by decide +kernel
theorem dX10_cell_5 : decode cX10_cell 5 = .ok (.iload_n 1, 1) := by decide +kernel
theorem dX10_cell_6 : decode cX10_cell 6 = .ok (.imul, 1) := by decide +kernel
theorem dX10_cell_7 : decode cX10_cell 7 = .ok (.iadd, 1) := by decide +kernel
theorem dX10_cell_8 : decode cX10_cell 8 = .ok (.iload_n 2, 1) := by decide +kernel
theorem dX10_cell_9 : decode cX10_cell 9 = .ok (.iadd, 1) := by decide +kernel
theorem dX10_cell_10 : decode cX10_cell 10 = .ok (.ireturn, 1) := by decide +kernel
set_option maxRecDepth 20000 in
theorem ggX10_isNear_X10_two : GoodIn wsX10_isNear wsX10_two := goodIn_r _ [7] (by decide +kernel) (by decide +kernel)
set_option maxRecDepth 20000 in
theorem gX10_isNear_X10_two : GoodIn wsX10_isNear (va_wsS RX10 151 yX10_two wsX10_two) := goodIn_app (goodIn_of _ (by decide +kernel)) ggX10_isNear_X10_two
theorem dX10_isNear_0 : decode cX10_isNear 0 = .ok (.aload_n 0, 1) := by decide +kernel
theorem dX10_isNear_1 : decode cX10_isNear 1 = .ok (.getfield 63, 3) := by decide +kernel
theorem dX10_isNear_4 : decode cX10_isNear 4 = .ok (.iload_n 1, 1) := by decide +kernel
theorem dX10_isNear_5 : decode cX10_isNear 5 = .ok (.iload_n 2, 1) := by decide +kernel
theorem dX10_isNear_6 : decode cX10_isNear 6 = .ok (.invokestatic 151, 3) := by decide +kernel
theorem dX10_isNear_9 : decode cX10_isNear 9 = .ok (.baload, 1) := by decide +kernel
theorem dX10_isNear_10 : decode cX10_isNear 10 = .ok (.ifCond .eq 51, 3) := by decide +kernel
theorem dX10_isNear_13 : decode cX10_isNear 13 = .ok (.aload_n 0, 1) := by decide +kernel
theorem dX10_isNear_14 : decode cX10_isNear 14 = .ok (.getfield 26, 3) := by decide +kernel
theorem dX10_isNear_17 : decode cX10_isNear 17 = .ok (.iload_n 1, 1) := by decide +kernel
theorem dX10_isNear_18 : decode cX10_isNear 18 = .ok (.baload, 1) := by decide +kernel
theorem dX10_isNear_19 : decode cX10_isNear 19 = .ok (.ifCond .eq 42, 3) := by decide +kernel
theorem dX10_isNear_22 : decode cX10_isNear 22 = .ok (.aload_n 0, 1) := by decide +kernel
theorem dX10_isNear_23 : decode cX10_isNear 23 = .ok (.getfield 26, 3) := by decide +kernel
theorem dX10_isNear_26 : decode cX10_isNear 26 = .ok (.iload_n 2, 1) := by decide +kernel
theorem dX10_isNear_27 : decode cX10_isNear 27 = .ok (.baload, 1) := by decide +kernel
theorem dX10_isNear_28 : decode cX10_isNear 28 = .ok (.ifCond .eq 33, 3) := by decide +kernel
theorem dX10_isNear_31 : decode cX10_isNear 31 = .ok (.aload_n 0, 1) := by decide +kernel
theorem dX10_isNear_32 : decode cX10_isNear 32 = .ok (.getfield 69, 3) := by decide +kernel
theorem dX10_isNear_35 : decode cX10_isNear 35 = .ok (.iload_n 1, 1) := by decide +kernel
theorem dX10_isNear_36 : decode cX10_isNear 36 = .ok (.iload_n 2, 1) := by decide +kernel
theorem dX10_isNear_37 : decode cX10_isNear 37 = .ok (.invokestatic 151, 3) := by decide +kernel
theorem dX10_isNear_40 : decode cX10_isNear 40 = .ok (.baload, 1) := by decide +kernel
theorem dX10_isNear_41 : decode cX10_isNear 41 = .ok (.ifCond .ne 20, 3) := by decide +kernel
theorem dX10_isNear_44 : decode cX10_isNear 44 = .ok (.aload_n 0, 1) := by decide +kernel
theorem dX10_isNear_45 : decode cX10_isNear 45 = .ok (.getfield 69, 3) := by decide +kernel
theorem dX10_isNear_48 : decode cX10_isNear 48 = .ok (.iload_n 2, 1) := by decide +kernel
theorem dX10_isNear_49 : decode cX10_isNear 49 = .ok (.iload_n 1, 1) := by decide +kernel
theorem dX10_isNear_50 : decode cX10_isNear 50 = .ok (.invokestatic 151, 3) := by decide +kernel
theorem dX10_isNear_53 : decode cX10_isNear 53 = .ok (.baload, 1) := by decide +kernel
theorem dX10_isNear_54 : decode cX10_isNear 54 = .ok (.ifCond .ne 7, 3) := by decide +kernel
theorem dX10_isNear_57 : decode cX10_isNear 57 = .ok (.iconst 1, 1) := by decide +kernel
theorem dX10_isNear_58 : decode cX10_isNear 58 = .ok (.goto 4, 3) := by decide +kernel
theorem dX10_isNear_61 : decode cX10_isNear 61 = .ok (.iconst 0, 1) := by decide +kernel
theorem dX10_isNear_62 : decode cX10_isNear 62 = .ok (.ireturn, 1) := by decide +kernel
theorem dX10_tells_0 : decode cX10_tells 0 = .ok (.aload_n 0, 1) := by decide +kernel
theorem dX10_tells_1 : decode cX10_tells 1 = .ok (.getfield 48, 3) := by decide +kernel
theorem dX10_tells_4 : decode cX10_tells 4 = .ok (.bipush 24, 2) := by decide +kernel
theorem dX10_tells_6 : decode cX10_tells 6 = .ok (.iload_n 1, 1) := by decide +kernel
theorem dX10_tells_7 : decode cX10_tells 7 = .ok (.imul, 1) := by decide +kernel
theorem dX10_tells_8 : decode cX10_tells 8 = .ok (.iload_n 2, 1) := by decide +kernel
theorem dX10_tells_9 : decode cX10_tells 9 = .ok (.iadd, 1) := by decide +kernel
theorem dX10_tells_10 : decode cX10_tells 10 = .ok (.baload, 1) := by decide +kernel
theorem dX10_tells_11 : decode cX10_tells 11 = .ok (.ifCond .eq 23, 3) := by decide +kernel
theorem dX10_tells_14 : decode cX10_tells 14 = .ok (.aload_n 0, 1) := by decide +kernel
theorem dX10_tells_15 : decode cX10_tells 15 = .ok (.getfield 16, 3) := by decide +kernel
theorem dX10_tells_18 : decode cX10_tells 18 = .ok (.iload_n 1, 1) := by decide +kernel
theorem dX10_tells_19 : decode cX10_tells 19 = .ok (.iaload, 1) := by decide +kernel
theorem dX10_tells_20 : decode cX10_tells 20 = .ok (.iconst 5, 1) := by decide +kernel
theorem dX10_tells_21 : decode cX10_tells 21 = .ok (.if_icmp .ne 9, 3) := by decide +kernel
theorem dX10_tells_24 : decode cX10_tells 24 = .ok (.iload_n 2, 1) := by decide +kernel
theorem dX10_tells_25 : decode cX10_tells 25 = .ok (.iconst 2, 1) := by decide +kernel
theorem dX10_tells_26 : decode cX10_tells 26 = .ok (.irem, 1) := by decide +kernel
theorem dX10_tells_27 : decode cX10_tells 27 = .ok (.ifCond .ne 7, 3) := by decide +kernel
theorem dX10_tells_30 : decode cX10_tells 30 = .ok (.iconst 1, 1) := by decide +kernel
theorem dX10_tells_31 : decode cX10_tells 31 = .ok (.goto 4, 3) := by decide +kernel
theorem dX10_tells_34 : decode cX10_tells 34 = .ok (.iconst 0, 1) := by decide +kernel
theorem dX10_tells_35 : decode cX10_tells 35 = .ok (.ireturn, 1) := by decide +kernel
set_option maxRecDepth 20000 in
theorem ggX10_wants_X10_isNear : GoodIn wsX10_wants wsX10_isNear := goodIn_r _ [7, 8, 9, 10, 11, 12, 6, 13, 19, 20, 21, 22, 23, 24, 25, 26, 27, 28, 29, 30, 31, 32, 33, 34, 35, 36, 37, 38, 39, 40, 41, 42, 43, 44, 45, 46, 47, 48, 49, 50, 51, 52, 53, 54, 55, 56, 57, 58, 59, 60, 61, 62, 63] (by decide +kernel) (by decide +kernel)
set_option maxRecDepth 20000 in
theorem gX10_wants_X10_isNear : GoodIn wsX10_wants (wsV RX10 154 RX10 yX10_isNear wsX10_isNear) := goodIn_app (goodIn_of _ (by decide +kernel)) ggX10_wants_X10_isNear
set_option maxRecDepth 20000 in
theorem ggX10_wants_X10_tells : GoodIn wsX10_wants wsX10_tells := goodIn_r _ [17, 2, 18, 19, 20, 21, 22, 23, 24, 25, 26, 27, 28, 29, 30, 31, 32, 33, 34, 35, 36, 37, 38, 39, 40, 41, 42, 43, 44, 45, 46, 47, 48, 49, 50, 51, 52, 53, 54, 55, 56, 57, 58, 59, 60, 61, 62, 63] (by decide +kernel) (by decide +kernel)
set_option maxRecDepth 20000 in
theorem gX10_wants_X10_tells : GoodIn wsX10_wants (wsV RX10 157 RX10 yX10_tells wsX10_tells) := goodIn_app (goodIn_of _ (by decide +kernel)) ggX10_wants_X10_tells
theorem dX10_wants_0 : decode cX10_wants 0 = .ok (.aload_n 0, 1) := by decide +kernel
theorem dX10_wants_1 : decode cX10_wants 1 = .ok (.iload_n 2, 1) := by decide +kernel
theorem dX10_wants_2 : decode cX10_wants 2 = .ok (.iload_n 1, 1) := by decide +kernel
theorem dX10_wants_3 : decode cX10_wants 3 = .ok (.invokevirtual 154, 3) := by decide +kernel
theorem dX10_wants_6 : decode cX10_wants 6 = .ok (.ifCond .ne 5, 3) := by decide +kernel
theorem dX10_wants_9 : decode cX10_wants 9 = .ok (.iconst 0, 1) := by decide +kernel
theorem dX10_wants_10 : decode cX10_wants 10 = .ok (.ireturn, 1) := by decide +kernel
theorem dX10_wants_11 : decode cX10_wants 11 = .ok (.iconst 0, 1) := by decide +kernel
theorem dX10_wants_12 : decode cX10_wants 12 = .ok (.istore_n 3, 1) := by decide +kernel
theorem dX10_wants_13 : decode cX10_wants 13 = .ok (.iload_n 3, 1) := by decide +kernel
theorem dX10_wants_14 : decode cX10_wants 14 = .ok (.aload_n 0, 1) := by decide +kernel
theorem dX10_wants_15 : decode cX10_wants 15 = .ok (.getfield 7, 3) := by decide +kernel
theorem dX10_wants_18 : decode cX10_wants 18 = .ok (.if_icmp .ge 34, 3) := by decide +kernel
theorem dX10_wants_21 : decode cX10_wants 21 = .ok (.aload_n 0, 1) := by decide +kernel
theorem dX10_wants_22 : decode cX10_wants 22 = .ok (.iload_n 2, 1) := by decide +kernel
theorem dX10_wants_23 : decode cX10_wants 23 = .ok (.iload_n 3, 1) := by decide +kernel
theorem dX10_wants_24 : decode cX10_wants 24 = .ok (.invokevirtual 157, 3) := by decide +kernel
theorem dX10_wants_27 : decode cX10_wants 27 = .ok (.ifCond .eq 19, 3) := by decide +kernel
theorem dX10_wants_30 : decode cX10_wants 30 = .ok (.aload_n 0, 1) := by decide +kernel
theorem dX10_wants_31 : decode cX10_wants 31 = .ok (.getfield 48, 3) := by decide +kernel
theorem dX10_wants_34 : decode cX10_wants 34 = .ok (.bipush 24, 2) := by decide +kernel
theorem dX10_wants_36 : decode cX10_wants 36 = .ok (.iload_n 1, 1) := by decide +kernel
theorem dX10_wants_37 : decode cX10_wants 37 = .ok (.imul, 1) := by decide +kernel
theorem dX10_wants_38 : decode cX10_wants 38 = .ok (.iload_n 3, 1) := by decide +kernel
theorem dX10_wants_39 : decode cX10_wants 39 = .ok (.iadd, 1) := by decide +kernel
theorem dX10_wants_40 : decode cX10_wants 40 = .ok (.baload, 1) := by decide +kernel
theorem dX10_wants_41 : decode cX10_wants 41 = .ok (.ifCond .ne 5, 3) := by decide +kernel
theorem dX10_wants_44 : decode cX10_wants 44 = .ok (.iconst 1, 1) := by decide +kernel
theorem dX10_wants_45 : decode cX10_wants 45 = .ok (.ireturn, 1) := by decide +kernel
theorem dX10_wants_46 : decode cX10_wants 46 = .ok (.iinc 3 1, 3) := by decide +kernel
theorem dX10_wants_49 : decode cX10_wants 49 = .ok (.goto (-36), 3) := by decide +kernel
theorem dX10_wants_52 : decode cX10_wants 52 = .ok (.iconst 0, 1) := by decide +kernel
theorem dX10_wants_53 : decode cX10_wants 53 = .ok (.ireturn, 1) := by decide +kernel
theorem dX10_hasMany_0 : decode cX10_hasMany 0 = .ok (.iconst 0, 1) := by decide +kernel
theorem dX10_hasMany_1 : decode cX10_hasMany 1 = .ok (.istore_n 2, 1) := by decide +kernel
theorem dX10_hasMany_2 : decode cX10_hasMany 2 = .ok (.iconst 0, 1) := by decide +kernel
theorem dX10_hasMany_3 : decode cX10_hasMany 3 = .ok (.istore_n 3, 1) := by decide +kernel
theorem dX10_hasMany_4 : decode cX10_hasMany 4 = .ok (.iload_n 3, 1) := by decide +kernel
theorem dX10_hasMany_5 : decode cX10_hasMany 5 = .ok (.aload_n 0, 1) := by decide +kernel
theorem dX10_hasMany_6 : decode cX10_hasMany 6 = .ok (.getfield 7, 3) := by decide +kernel
theorem dX10_hasMany_9 : decode cX10_hasMany 9 = .ok (.if_icmp .ge 31, 3) := by decide +kernel
theorem dX10_hasMany_12 : decode cX10_hasMany 12 = .ok (.iload_n 2, 1) := by decide +kernel
theorem dX10_hasMany_13 : decode cX10_hasMany 13 = .ok (.aload_n 0, 1) := by decide +kernel
theorem dX10_hasMany_14 : decode cX10_hasMany 14 = .ok (.getfield 48, 3) := by decide +kernel
theorem dX10_hasMany_17 : decode cX10_hasMany 17 = .ok (.bipush 24, 2) := by decide +kernel
theorem dX10_hasMany_19 : decode cX10_hasMany 19 = .ok (.iload_n 1, 1) := by decide +kernel
theorem dX10_hasMany_20 : decode cX10_hasMany 20 = .ok (.imul, 1) := by decide +kernel
theorem dX10_hasMany_21 : decode cX10_hasMany 21 = .ok (.iload_n 3, 1) := by decide +kernel
theorem dX10_hasMany_22 : decode cX10_hasMany 22 = .ok (.iadd, 1) := by decide +kernel
theorem dX10_hasMany_23 : decode cX10_hasMany 23 = .ok (.baload, 1) := by decide +kernel
theorem dX10_hasMany_24 : decode cX10_hasMany 24 = .ok (.ifCond .eq 7, 3) := by decide +kernel
theorem dX10_hasMany_27 : decode cX10_hasMany 27 = .ok (.iconst 1, 1) := by decide +kernel
theorem dX10_hasMany_28 : decode cX10_hasMany 28 = .ok (.goto 4, 3) := by decide +kernel
theorem dX10_hasMany_31 : decode cX10_hasMany 31 = .ok (.iconst 0, 1) := by decide +kernel
theorem dX10_hasMany_32 : decode cX10_hasMany 32 = .ok (.iadd, 1) := by decide +kernel
theorem dX10_hasMany_33 : decode cX10_hasMany 33 = .ok (.istore_n 2, 1) := by decide +kernel
theorem dX10_hasMany_34 : decode cX10_hasMany 34 = .ok (.iinc 3 1, 3) := by decide +kernel
theorem dX10_hasMany_37 : decode cX10_hasMany 37 = .ok (.goto (-33), 3) := by decide +kernel
theorem dX10_hasMany_40 : decode cX10_hasMany 40 = .ok (.iload_n 2, 1) := by decide +kernel
theorem dX10_hasMany_41 : decode cX10_hasMany 41 = .ok (.ireturn, 1) := by decide +kernel
set_option maxRecDepth 20000 in
theorem ggX10_isDone_X10_hasMany : GoodIn wsX10_isDone wsX10_hasMany := goodIn_r _ [6, 1, 7, 8, 9, 10, 11, 12, 13, 14, 15, 16, 17, 18, 19, 20, 21, 22, 23, 24, 25, 26, 27, 28, 29, 30, 31, 32, 33, 34, 35, 36, 37, 38, 39, 40, 41, 42, 43, 44, 45, 46, 47, 48, 49, 50, 51, 52] (by decide +kernel) (by decide +kernel)
set_option maxRecDepth 20000 in
theorem gX10_isDone_X10_hasMany : GoodIn wsX10_isDone (wsV RX10 160 RX10 yX10_hasMany wsX10_hasMany) := goodIn_app (goodIn_of _ (by decide +kernel)) ggX10_isDone_X10_hasMany
theorem dX10_isDone_0 : decode cX10_isDone 0 = .ok (.aload_n 0, 1) := by decide +kernel
theorem dX10_isDone_1 : decode cX10_isDone 1 = .ok (.iload_n 1, 1) := by decide +kernel
theorem dX10_isDone_2 : decode cX10_isDone 2 = .ok (.invokevirtual 160, 3) := by decide +kernel
theorem dX10_isDone_5 : decode cX10_isDone 5 = .ok (.aload_n 0, 1) := by decide +kernel
theorem dX10_isDone_6 : decode cX10_isDone 6 = .ok (.getfield 7, 3) := by decide +kernel
theorem dX10_isDone_9 : decode cX10_isDone 9 = .ok (.if_icmp .ne 7, 3) := by decide +kernel
theorem dX10_isDone_12 : decode cX10_isDone 12 = .ok (.iconst 1, 1) := by decide +kernel
theorem dX10_isDone_13 : decode cX10_isDone 13 = .ok (.goto 4, 3) := by decide +kernel
theorem dX10_isDone_16 : decode cX10_isDone 16 = .ok (.iconst 0, 1) := by decide +kernel
theorem dX10_isDone_17 : decode cX10_isDone 17 = .ok (.ireturn, 1) := by decide +kernel
set_option maxRecDepth 20000 in
theorem ggX10_heldMany_X10_cell : GoodIn wsX10_heldMany wsX10_cell := goodIn_r _ [6] (by decide +kernel) (by decide +kernel)
set_option maxRecDepth 20000 in
theorem gX10_heldMany_X10_cell : GoodIn wsX10_heldMany (va_wsS RX10 163 yX10_cell wsX10_cell) := goodIn_app (goodIn_of _ (by decide +kernel)) ggX10_heldMany_X10_cell
theorem dX10_heldMany_0 : decode cX10_heldMany 0 = .ok (.iconst 0, 1) := by decide +kernel
theorem dX10_heldMany_1 : decode cX10_heldMany 1 = .ok (.istore_n 3, 1) := by decide +kernel
theorem dX10_heldMany_2 : decode cX10_heldMany 2 = .ok (.iconst 0, 1) := by decide +kernel
theorem dX10_heldMany_3 : decode cX10_heldMany 3 = .ok (.istore 4, 2) := by decide +kernel
theorem dX10_heldMany_5 : decode cX10_heldMany 5 = .ok (.iload 4, 2) := by decide +kernel
theorem dX10_heldMany_7 : decode cX10_heldMany 7 = .ok (.aload_n 0, 1) := by decide +kernel
theorem dX10_heldMany_8 : decode cX10_heldMany 8 = .ok (.getfield 13, 3) := by decide +kernel
theorem dX10_heldMany_11 : decode cX10_heldMany 11 = .ok (.if_icmp .ge 32, 3) := by decide +kernel
theorem dX10_heldMany_14 : decode cX10_heldMany 14 = .ok (.iload_n 3, 1) := by decide +kernel
theorem dX10_heldMany_15 : decode cX10_heldMany 15 = .ok (.aload_n 0, 1) := by decide +kernel
theorem dX10_heldMany_16 : decode cX10_heldMany 16 = .ok (.getfield 54, 3) := by decide +kernel
theorem dX10_heldMany_19 : decode cX10_heldMany 19 = .ok (.iload_n 1, 1) := by decide +kernel
theorem dX10_heldMany_20 : decode cX10_heldMany 20 = .ok (.iload_n 2, 1) := by decide +kernel
theorem dX10_heldMany_21 : decode cX10_heldMany 21 = .ok (.iload 4, 2) := by decide +kernel
theorem dX10_heldMany_23 : decode cX10_heldMany 23 = .ok (.invokestatic 163, 3) := by decide +kernel
theorem dX10_heldMany_26 : decode cX10_heldMany 26 = .ok (.baload, 1) := by decide +kernel
theorem dX10_heldMany_27 : decode cX10_heldMany 27 = .ok (.ifCond .eq 7, 3) := by decide +kernel
theorem dX10_heldMany_30 : decode cX10_heldMany 30 = .ok (.iconst 1, 1) := by decide +kernel
theorem dX10_heldMany_31 : decode cX10_heldMany 31 = .ok (.goto 4, 3) := by decide +kernel
theorem dX10_heldMany_34 : decode cX10_heldMany 34 = .ok (.iconst 0, 1) := by decide +kernel
theorem dX10_heldMany_35 : decode cX10_heldMany 35 = .ok (.iadd, 1) := by decide +kernel
theorem dX10_heldMany_36 : decode cX10_heldMany 36 = .ok (.istore_n 3, 1) := by decide +kernel
theorem dX10_heldMany_37 : decode cX10_heldMany 37 = .ok (.iinc 4 1, 3) := by decide +kernel
theorem dX10_heldMany_40 : decode cX10_heldMany 40 = .ok (.goto (-35), 3) := by decide +kernel
theorem dX10_heldMany_43 : decode cX10_heldMany 43 = .ok (.iload_n 3, 1) := by decide +kernel
theorem dX10_heldMany_44 : decode cX10_heldMany 44 = .ok (.ireturn, 1) := by decide +kernel
set_option maxRecDepth 20000 in
theorem ggX10_peer_X10_in : GoodIn wsX10_peer wsX10_in := goodIn_r _ [20] (by decide +kernel) (by decide +kernel)
set_option maxRecDepth 20000 in
theorem gX10_peer_X10_in : GoodIn wsX10_peer (va_wsS RX10 132 yX10_in wsX10_in) := goodIn_app (goodIn_of _ (by decide +kernel)) ggX10_peer_X10_in
set_option maxRecDepth 20000 in
theorem ggX10_peer_X10_cell : GoodIn wsX10_peer wsX10_cell := goodIn_r _ [23] (by decide +kernel) (by decide +kernel)
set_option maxRecDepth 20000 in
theorem gX10_peer_X10_cell : GoodIn wsX10_peer (va_wsS RX10 163 yX10_cell wsX10_cell) := goodIn_app (goodIn_of _ (by decide +kernel)) ggX10_peer_X10_cell
set_option maxRecDepth 20000 in
theorem ggX10_peer_X10_valueOf : GoodIn wsX10_peer wsX10_valueOf := goodIn_r _ [27, 28, 29, 30, 31, 32, 33, 34, 35, 36, 37, 38, 39, 40, 41, 42, 43, 44, 45, 46, 47, 48, 49, 50, 51, 52, 53, 54, 55, 56, 57, 58, 59, 60, 61, 62, 63, 64, 65, 66, 67, 68, 69, 70, 71, 72, 73, 74] (by decide +kernel) (by decide +kernel)
set_option maxRecDepth 20000 in
theorem gX10_peer_X10_valueOf : GoodIn wsX10_peer (wsV RX10 128 RX10 yX10_valueOf wsX10_valueOf) := goodIn_app (goodIn_of _ (by decide +kernel)) ggX10_peer_X10_valueOf
theorem dX10_peer_0 : decode cX10_peer 0 = .ok (.aload_n 0, 1) := by decide +kernel
theorem dX10_peer_1 : decode cX10_peer 1 = .ok (.iconst 0, 1) := by decide +kernel
theorem dX10_peer_2 : decode cX10_peer 2 = .ok (.putfield 120, 3) := by decide +kernel
theorem dX10_peer_5 : decode cX10_peer 5 = .ok (.aload_n 0, 1) := by decide +kernel
theorem dX10_peer_6 : decode cX10_peer 6 = .ok (.getfield 136, 3) := by decide +kernel
theorem dX10_peer_9 : decode cX10_peer 9 = .ok (.bipush 12, 2) := by decide +kernel
theorem dX10_peer_11 : decode cX10_peer 11 = .ok (.if_icmp .eq 32, 3) := by decide +kernel
theorem dX10_peer_14 : decode cX10_peer 14 = .ok (.iload_n 1, 1) := by decide +kernel
theorem dX10_peer_15 : decode cX10_peer 15 = .ok (.iconst 0, 1) := by decide +kernel
theorem dX10_peer_16 : decode cX10_peer 16 = .ok (.iconst 5, 1) := by decide +kernel
theorem dX10_peer_17 : decode cX10_peer 17 = .ok (.invokestatic 132, 3) := by decide +kernel
theorem dX10_peer_20 : decode cX10_peer 20 = .ok (.ifCond .eq 23, 3) := by decide +kernel
theorem dX10_peer_23 : decode cX10_peer 23 = .ok (.iload_n 2, 1) := by decide +kernel
theorem dX10_peer_24 : decode cX10_peer 24 = .ok (.iconst 1, 1) := by decide +kernel
theorem dX10_peer_25 : decode cX10_peer 25 = .ok (.bipush 8, 2) := by decide +kernel
theorem dX10_peer_27 : decode cX10_peer 27 = .ok (.invokestatic 132, 3) := by decide +kernel
theorem dX10_peer_30 : decode cX10_peer 30 = .ok (.ifCond .eq 13, 3) := by decide +kernel
theorem dX10_peer_33 : decode cX10_peer 33 = .ok (.iload_n 3, 1) := by decide +kernel
theorem dX10_peer_34 : decode cX10_peer 34 = .ok (.iconst 1, 1) := by decide +kernel
theorem dX10_peer_35 : decode cX10_peer 35 = .ok (.bipush 8, 2) := by decide +kernel
theorem dX10_peer_37 : decode cX10_peer 37 = .ok (.invokestatic 132, 3) := by decide +kernel
theorem dX10_peer_40 : decode cX10_peer 40 = .ok (.ifCond .ne 5, 3) := by decide +kernel
theorem dX10_peer_43 : decode cX10_peer 43 = .ok (.iconst (-1), 1) := by decide +kernel
theorem dX10_peer_44 : decode cX10_peer 44 = .ok (.ireturn, 1) := by decide +kernel
theorem dX10_peer_45 : decode cX10_peer 45 = .ok (.aload_n 0, 1) := by decide +kernel
theorem dX10_peer_46 : decode cX10_peer 46 = .ok (.getfield 136, 3) := by decide +kernel
theorem dX10_peer_49 : decode cX10_peer 49 = .ok (.istore 4, 2) := by decide +kernel
theorem dX10_peer_51 : decode cX10_peer 51 = .ok (.aload_n 0, 1) := by decide +kernel
theorem dX10_peer_52 : decode cX10_peer 52 = .ok (.dup, 1) := by decide +kernel
theorem dX10_peer_53 : decode cX10_peer 53 = .ok (.getfield 136, 3) := by decide +kernel
theorem dX10_peer_56 : decode cX10_peer 56 = .ok (.iconst 1, 1) := by decide +kernel
theorem dX10_peer_57 : decode cX10_peer 57 = .ok (.iadd, 1) := by decide +kernel
theorem dX10_peer_58 : decode cX10_peer 58 = .ok (.putfield 136, 3) := by decide +kernel
theorem dX10_peer_61 : decode cX10_peer 61 = .ok (.aload_n 0, 1) := by decide +kernel
theorem dX10_peer_62 : decode cX10_peer 62 = .ok (.getfield 16, 3) := by decide +kernel
theorem dX10_peer_65 : decode cX10_peer 65 = .ok (.iload 4, 2) := by decide +kernel
theorem dX10_peer_67 : decode cX10_peer 67 = .ok (.iload_n 1, 1) := by decide +kernel
theorem dX10_peer_68 : decode cX10_peer 68 = .ok (.iastore, 1) := by decide +kernel
theorem dX10_peer_69 : decode cX10_peer 69 = .ok (.aload_n 0, 1) := by decide +kernel
theorem dX10_peer_70 : decode cX10_peer 70 = .ok (.getfield 20, 3) := by decide +kernel
theorem dX10_peer_73 : decode cX10_peer 73 = .ok (.iload 4, 2) := by decide +kernel
theorem dX10_peer_75 : decode cX10_peer 75 = .ok (.iload_n 2, 1) := by decide +kernel
theorem dX10_peer_76 : decode cX10_peer 76 = .ok (.iastore, 1) := by decide +kernel
theorem dX10_peer_77 : decode cX10_peer 77 = .ok (.aload_n 0, 1) := by decide +kernel
theorem dX10_peer_78 : decode cX10_peer 78 = .ok (.getfield 23, 3) := by decide +kernel
theorem dX10_peer_81 : decode cX10_peer 81 = .ok (.iload 4, 2) := by decide +kernel
theorem dX10_peer_83 : decode cX10_peer 83 = .ok (.iload_n 3, 1) := by decide +kernel
theorem dX10_peer_84 : decode cX10_peer 84 = .ok (.iastore, 1) := by decide +kernel
theorem dX10_peer_85 : decode cX10_peer 85 = .ok (.aload_n 0, 1) := by decide +kernel
theorem dX10_peer_86 : decode cX10_peer 86 = .ok (.getfield 26, 3) := by decide +kernel
theorem dX10_peer_89 : decode cX10_peer 89 = .ok (.iload 4, 2) := by decide +kernel
theorem dX10_peer_91 : decode cX10_peer 91 = .ok (.iconst 1, 1) := by decide +kernel
theorem dX10_peer_92 : decode cX10_peer 92 = .ok (.bastore, 1) := by decide +kernel
theorem dX10_peer_93 : decode cX10_peer 93 = .ok (.aload_n 0, 1) := by decide +kernel
theorem dX10_peer_94 : decode cX10_peer 94 = .ok (.getfield 30, 3) := by decide +kernel
theorem dX10_peer_97 : decode cX10_peer 97 = .ok (.iload 4, 2) := by decide +kernel
theorem dX10_peer_99 : decode cX10_peer 99 = .ok (.iconst 2, 1) := by decide +kernel
theorem dX10_peer_100 : decode cX10_peer 100 = .ok (.iastore, 1) := by decide +kernel
theorem dX10_peer_101 : decode cX10_peer 101 = .ok (.aload_n 0, 1) := by decide +kernel
theorem dX10_peer_102 : decode cX10_peer 102 = .ok (.getfield 45, 3) := by decide +kernel
theorem dX10_peer_105 : decode cX10_peer 105 = .ok (.iload 4, 2) := by decide +kernel
theorem dX10_peer_107 : decode cX10_peer 107 = .ok (.iload_n 1, 1) := by decide +kernel
theorem dX10_peer_108 : decode cX10_peer 108 = .ok (.iconst 1, 1) := by decide +kernel
theorem dX10_peer_109 : decode cX10_peer 109 = .ok (.if_icmp .ne 7, 3) := by decide +kernel
theorem dX10_peer_112 : decode cX10_peer 112 = .ok (.iconst 0, 1) := by decide +kernel
theorem dX10_peer_113 : decode cX10_peer 113 = .ok (.goto 4, 3) := by decide +kernel
theorem dX10_peer_116 : decode cX10_peer 116 = .ok (.iconst (-1), 1) := by decide +kernel
theorem dX10_peer_117 : decode cX10_peer 117 = .ok (.iastore, 1) := by decide +kernel
theorem dX10_peer_118 : decode cX10_peer 118 = .ok (.aload_n 0, 1) := by decide +kernel
theorem dX10_peer_119 : decode cX10_peer 119 = .ok (.getfield 84, 3) := by decide +kernel
theorem dX10_peer_122 : decode cX10_peer 122 = .ok (.iload 4, 2) := by decide +kernel
theorem dX10_peer_124 : decode cX10_peer 124 = .ok (.iconst (-1), 1) := by decide +kernel
theorem dX10_peer_125 : decode cX10_peer 125 = .ok (.iastore, 1) := by decide +kernel
theorem dX10_peer_126 : decode cX10_peer 126 = .ok (.aload_n 0, 1) := by decide +kernel
theorem dX10_peer_127 : decode cX10_peer 127 = .ok (.getfield 87, 3) := by decide +kernel
theorem dX10_peer_130 : decode cX10_peer 130 = .ok (.iload 4, 2) := by decide +kernel
theorem dX10_peer_132 : decode cX10_peer 132 = .ok (.iconst (-1), 1) := by decide +kernel
theorem dX10_peer_133 : decode cX10_peer 133 = .ok (.iastore, 1) := by decide +kernel
theorem dX10_peer_134 : decode cX10_peer 134 = .ok (.iconst 0, 1) := by decide +kernel
theorem dX10_peer_135 : decode cX10_peer 135 = .ok (.istore 5, 2) := by decide +kernel
theorem dX10_peer_137 : decode cX10_peer 137 = .ok (.iload 5, 2) := by decide +kernel
theorem dX10_peer_139 : decode cX10_peer 139 = .ok (.aload_n 0, 1) := by decide +kernel
theorem dX10_peer_140 : decode cX10_peer 140 = .ok (.getfield 7, 3) := by decide +kernel
theorem dX10_peer_143 : decode cX10_peer 143 = .ok (.if_icmp .ge 98, 3) := by decide +kernel
theorem dX10_peer_146 : decode cX10_peer 146 = .ok (.iload_n 1, 1) := by decide +kernel
theorem dX10_peer_147 : decode cX10_peer 147 = .ok (.iconst 1, 1) := by decide +kernel
theorem dX10_peer_148 : decode cX10_peer 148 = .ok (.if_icmp .ne 93, 3) := by decide +kernel
theorem dX10_peer_151 : decode cX10_peer 151 = .ok (.aload_n 0, 1) := by decide +kernel
theorem dX10_peer_152 : decode cX10_peer 152 = .ok (.getfield 48, 3) := by decide +kernel
theorem dX10_peer_155 : decode cX10_peer 155 = .ok (.bipush 24, 2) := by decide +kernel
theorem dX10_peer_157 : decode cX10_peer 157 = .ok (.iload 4, 2) := by decide +kernel
theorem dX10_peer_159 : decode cX10_peer 159 = .ok (.imul, 1) := by decide +kernel
theorem dX10_peer_160 : decode cX10_peer 160 = .ok (.iload 5, 2) := by decide +kernel
theorem dX10_peer_162 : decode cX10_peer 162 = .ok (.iadd, 1) := by decide +kernel
theorem dX10_peer_163 : decode cX10_peer 163 = .ok (.iconst 1, 1) := by decide +kernel
theorem dX10_peer_164 : decode cX10_peer 164 = .ok (.bastore, 1) := by decide +kernel
theorem dX10_peer_165 : decode cX10_peer 165 = .ok (.iconst 0, 1) := by decide +kernel
theorem dX10_peer_166 : decode cX10_peer 166 = .ok (.istore 6, 2) := by decide +kernel
theorem dX10_peer_168 : decode cX10_peer 168 = .ok (.iload 6, 2) := by decide +kernel
theorem dX10_peer_170 : decode cX10_peer 170 = .ok (.aload_n 0, 1) := by decide +kernel
theorem dX10_peer_171 : decode cX10_peer 171 = .ok (.getfield 13, 3) := by decide +kernel
theorem dX10_peer_174 : decode cX10_peer 174 = .ok (.if_icmp .ge 61, 3) := by decide +kernel
theorem dX10_peer_177 : decode cX10_peer 177 = .ok (.aload_n 0, 1) := by decide +kernel
theorem dX10_peer_178 : decode cX10_peer 178 = .ok (.getfield 54, 3) := by decide +kernel
theorem dX10_peer_181 : decode cX10_peer 181 = .ok (.iload 4, 2) := by decide +kernel
theorem dX10_peer_183 : decode cX10_peer 183 = .ok (.iload 5, 2) := by decide +kernel
theorem dX10_peer_185 : decode cX10_peer 185 = .ok (.iload 6, 2) := by decide +kernel
theorem dX10_peer_187 : decode cX10_peer 187 = .ok (.invokestatic 163, 3) := by decide +kernel
theorem dX10_peer_190 : decode cX10_peer 190 = .ok (.iconst 1, 1) := by decide +kernel
theorem dX10_peer_191 : decode cX10_peer 191 = .ok (.bastore, 1) := by decide +kernel
theorem dX10_peer_192 : decode cX10_peer 192 = .ok (.aload_n 0, 1) := by decide +kernel
theorem dX10_peer_193 : decode cX10_peer 193 = .ok (.getfield 57, 3) := by decide +kernel
theorem dX10_peer_196 : decode cX10_peer 196 = .ok (.iload 4, 2) := by decide +kernel
theorem dX10_peer_198 : decode cX10_peer 198 = .ok (.iload 5, 2) := by decide +kernel
theorem dX10_peer_200 : decode cX10_peer 200 = .ok (.iload 6, 2) := by decide +kernel
theorem dX10_peer_202 : decode cX10_peer 202 = .ok (.invokestatic 163, 3) := by decide +kernel
theorem dX10_peer_205 : decode cX10_peer 205 = .ok (.aload_n 0, 1) := by decide +kernel
theorem dX10_peer_206 : decode cX10_peer 206 = .ok (.iload 5, 2) := by decide +kernel
