theorem dX10_asks_153 : decode cX10_asks 153 = .ok (.iload_n 1, 1) := by decide +kernel
theorem dX10_asks_154 : decode cX10_asks 154 = .ok (.iload_n 2, 1) := by decide +kernel
theorem dX10_asks_155 : decode cX10_asks 155 = .ok (.aload_n 0, 1) := by decide +kernel
theorem dX10_asks_156 : decode cX10_asks 156 = .ok (.iload_n 1, 1) := by decide +kernel
theorem dX10_asks_157 : decode cX10_asks 157 = .ok (.iload_n 2, 1) := by decide +kernel
theorem dX10_asks_158 : decode cX10_asks 158 = .ok (.invokevirtual 224, 3) := by decide +kernel
theorem dX10_asks_161 : decode cX10_asks 161 = .ok (.invokevirtual 241, 3) := by decide +kernel
theorem dX10_asks_164 : decode cX10_asks 164 = .ok (.iconst 1, 1) := by decide +kernel
theorem dX10_asks_165 : decode cX10_asks 165 = .ok (.ireturn, 1) := by decide +kernel
theorem dX10_asks_166 : decode cX10_asks 166 = .ok (.iconst 0, 1) := by decide +kernel
theorem dX10_asks_167 : decode cX10_asks 167 = .ok (.istore 5, 2) := by decide +kernel
theorem dX10_asks_169 : decode cX10_asks 169 = .ok (.iload 5, 2) := by decide +kernel
theorem dX10_asks_171 : decode cX10_asks 171 = .ok (.aload_n 0, 1) := by decide +kernel
theorem dX10_asks_172 : decode cX10_asks 172 = .ok (.getfield 7, 3) := by decide +kernel
theorem dX10_asks_175 : decode cX10_asks 175 = .ok (.if_icmp .ge 130, 3) := by decide +kernel
theorem dX10_asks_178 : decode cX10_asks 178 = .ok (.iconst 0, 1) := by decide +kernel
theorem dX10_asks_179 : decode cX10_asks 179 = .ok (.istore 6, 2) := by decide +kernel
theorem dX10_asks_181 : decode cX10_asks 181 = .ok (.iload 6, 2) := by decide +kernel
theorem dX10_asks_183 : decode cX10_asks 183 = .ok (.aload_n 0, 1) := by decide +kernel
theorem dX10_asks_184 : decode cX10_asks 184 = .ok (.getfield 13, 3) := by decide +kernel
theorem dX10_asks_187 : decode cX10_asks 187 = .ok (.if_icmp .ge 112, 3) := by decide +kernel
theorem dX10_asks_190 : decode cX10_asks 190 = .ok (.aload_n 0, 1) := by decide +kernel
theorem dX10_asks_191 : decode cX10_asks 191 = .ok (.getfield 48, 3) := by decide +kernel
theorem dX10_asks_194 : decode cX10_asks 194 = .ok (.bipush 24, 2) := by decide +kernel
theorem dX10_asks_196 : decode cX10_asks 196 = .ok (.iload_n 1, 1) := by decide +kernel
theorem dX10_asks_197 : decode cX10_asks 197 = .ok (.imul, 1) := by decide +kernel
theorem dX10_asks_198 : decode cX10_asks 198 = .ok (.iload 5, 2) := by decide +kernel
theorem dX10_asks_200 : decode cX10_asks 200 = .ok (.iadd, 1) := by decide +kernel
theorem dX10_asks_201 : decode cX10_asks 201 = .ok (.baload, 1) := by decide +kernel
theorem dX10_asks_202 : decode cX10_asks 202 = .ok (.ifCond .ne 91, 3) := by decide +kernel
theorem dX10_asks_205 : decode cX10_asks 205 = .ok (.aload_n 0, 1) := by decide +kernel
theorem dX10_asks_206 : decode cX10_asks 206 = .ok (.getfield 51, 3) := by decide +kernel
theorem dX10_asks_209 : decode cX10_asks 209 = .ok (.bipush 24, 2) := by decide +kernel
theorem dX10_asks_211 : decode cX10_asks 211 = .ok (.iload_n 1, 1) := by decide +kernel
theorem dX10_asks_212 : decode cX10_asks 212 = .ok (.imul, 1) := by decide +kernel
theorem dX10_asks_213 : decode cX10_asks 213 = .ok (.iload 5, 2) := by decide +kernel
theorem dX10_asks_215 : decode cX10_asks 215 = .ok (.iadd, 1) := by decide +kernel
theorem dX10_asks_216 : decode cX10_asks 216 = .ok (.baload, 1) := by decide +kernel
theorem dX10_asks_217 : decode cX10_asks 217 = .ok (.ifCond .ne 76, 3) := by decide +kernel
theorem dX10_asks_220 : decode cX10_asks 220 = .ok (.aload_n 0, 1) := by decide +kernel
theorem dX10_asks_221 : decode cX10_asks 221 = .ok (.getfield 54, 3) := by decide +kernel
theorem dX10_asks_224 : decode cX10_asks 224 = .ok (.iload_n 1, 1) := by decide +kernel
theorem dX10_asks_225 : decode cX10_asks 225 = .ok (.iload 5, 2) := by decide +kernel
theorem dX10_asks_227 : decode cX10_asks 227 = .ok (.iload 6, 2) := by decide +kernel
theorem dX10_asks_229 : decode cX10_asks 229 = .ok (.invokestatic 163, 3) := by decide +kernel
theorem dX10_asks_232 : decode cX10_asks 232 = .ok (.baload, 1) := by decide +kernel
theorem dX10_asks_233 : decode cX10_asks 233 = .ok (.ifCond .ne 60, 3) := by decide +kernel
theorem dX10_asks_236 : decode cX10_asks 236 = .ok (.aload_n 0, 1) := by decide +kernel
theorem dX10_asks_237 : decode cX10_asks 237 = .ok (.iload_n 1, 1) := by decide +kernel
theorem dX10_asks_238 : decode cX10_asks 238 = .ok (.iload 5, 2) := by decide +kernel
theorem dX10_asks_240 : decode cX10_asks 240 = .ok (.iload 6, 2) := by decide +kernel
theorem dX10_asks_242 : decode cX10_asks 242 = .ok (.invokevirtual 218, 3) := by decide +kernel
theorem dX10_asks_245 : decode cX10_asks 245 = .ok (.iconst 1, 1) := by decide +kernel
theorem dX10_asks_246 : decode cX10_asks 246 = .ok (.if_icmp .eq 6, 3) := by decide +kernel
theorem dX10_asks_249 : decode cX10_asks 249 = .ok (.goto 44, 3) := by decide +kernel
theorem dX10_asks_252 : decode cX10_asks 252 = .ok (.aload_n 0, 1) := by decide +kernel
theorem dX10_asks_253 : decode cX10_asks 253 = .ok (.iload_n 1, 1) := by decide +kernel
theorem dX10_asks_254 : decode cX10_asks 254 = .ok (.iload 5, 2) := by decide +kernel
theorem dX10_asks_256 : decode cX10_asks 256 = .ok (.iconst (-1), 1) := by decide +kernel
theorem dX10_asks_257 : decode cX10_asks 257 = .ok (.aload_n 0, 1) := by decide +kernel
theorem dX10_asks_258 : decode cX10_asks 258 = .ok (.iload_n 1, 1) := by decide +kernel
theorem dX10_asks_259 : decode cX10_asks 259 = .ok (.iload 5, 2) := by decide +kernel
theorem dX10_asks_261 : decode cX10_asks 261 = .ok (.iload 6, 2) := by decide +kernel
theorem dX10_asks_263 : decode cX10_asks 263 = .ok (.invokevirtual 245, 3) := by decide +kernel
theorem dX10_asks_266 : decode cX10_asks 266 = .ok (.invokevirtual 231, 3) := by decide +kernel
theorem dX10_asks_269 : decode cX10_asks 269 = .ok (.istore 7, 2) := by decide +kernel
theorem dX10_asks_271 : decode cX10_asks 271 = .ok (.iload 7, 2) := by decide +kernel
theorem dX10_asks_273 : decode cX10_asks 273 = .ok (.iconst (-1), 1) := by decide +kernel
theorem dX10_asks_274 : decode cX10_asks 274 = .ok (.if_icmp .ne 6, 3) := by decide +kernel
theorem dX10_asks_277 : decode cX10_asks 277 = .ok (.goto 16, 3) := by decide +kernel
theorem dX10_asks_280 : decode cX10_asks 280 = .ok (.aload_n 0, 1) := by decide +kernel
theorem dX10_asks_281 : decode cX10_asks 281 = .ok (.iload 7, 2) := by decide +kernel
theorem dX10_asks_283 : decode cX10_asks 283 = .ok (.iload_n 1, 1) := by decide +kernel
theorem dX10_asks_284 : decode cX10_asks 284 = .ok (.iload 5, 2) := by decide +kernel
theorem dX10_asks_286 : decode cX10_asks 286 = .ok (.iload 6, 2) := by decide +kernel
theorem dX10_asks_288 : decode cX10_asks 288 = .ok (.invokevirtual 241, 3) := by decide +kernel
theorem dX10_asks_291 : decode cX10_asks 291 = .ok (.iconst 1, 1) := by decide +kernel
theorem dX10_asks_292 : decode cX10_asks 292 = .ok (.ireturn, 1) := by decide +kernel
theorem dX10_asks_293 : decode cX10_asks 293 = .ok (.iinc 6 1, 3) := by decide +kernel
theorem dX10_asks_296 : decode cX10_asks 296 = .ok (.goto (-115), 3) := by decide +kernel
theorem dX10_asks_299 : decode cX10_asks 299 = .ok (.iinc 5 1, 3) := by decide +kernel
theorem dX10_asks_302 : decode cX10_asks 302 = .ok (.goto (-133), 3) := by decide +kernel
theorem dX10_asks_305 : decode cX10_asks 305 = .ok (.iconst 0, 1) := by decide +kernel
theorem dX10_asks_306 : decode cX10_asks 306 = .ok (.ireturn, 1) := by decide +kernel
theorem dX10_senderOf_0 : decode cX10_senderOf 0 = .ok (.iconst 0, 1) := by decide +kernel
theorem dX10_senderOf_1 : decode cX10_senderOf 1 = .ok (.istore 4, 2) := by decide +kernel
theorem dX10_senderOf_3 : decode cX10_senderOf 3 = .ok (.aload_n 0, 1) := by decide +kernel
theorem dX10_senderOf_4 : decode cX10_senderOf 4 = .ok (.getfield 90, 3) := by decide +kernel
theorem dX10_senderOf_7 : decode cX10_senderOf 7 = .ok (.iload 4, 2) := by decide +kernel
theorem dX10_senderOf_9 : decode cX10_senderOf 9 = .ok (.iaload, 1) := by decide +kernel
theorem dX10_senderOf_10 : decode cX10_senderOf 10 = .ok (.iload_n 1, 1) := by decide +kernel
theorem dX10_senderOf_11 : decode cX10_senderOf 11 = .ok (.if_icmp .ne 25, 3) := by decide +kernel
theorem dX10_senderOf_14 : decode cX10_senderOf 14 = .ok (.aload_n 0, 1) := by decide +kernel
theorem dX10_senderOf_15 : decode cX10_senderOf 15 = .ok (.getfield 96, 3) := by decide +kernel
theorem dX10_senderOf_18 : decode cX10_senderOf 18 = .ok (.iload 4, 2) := by decide +kernel
theorem dX10_senderOf_20 : decode cX10_senderOf 20 = .ok (.iaload, 1) := by decide +kernel
theorem dX10_senderOf_21 : decode cX10_senderOf 21 = .ok (.iload_n 2, 1) := by decide +kernel
theorem dX10_senderOf_22 : decode cX10_senderOf 22 = .ok (.if_icmp .ne 14, 3) := by decide +kernel
theorem dX10_senderOf_25 : decode cX10_senderOf 25 = .ok (.aload_n 0, 1) := by decide +kernel
theorem dX10_senderOf_26 : decode cX10_senderOf 26 = .ok (.getfield 99, 3) := by decide +kernel
theorem dX10_senderOf_29 : decode cX10_senderOf 29 = .ok (.iload 4, 2) := by decide +kernel
theorem dX10_senderOf_31 : decode cX10_senderOf 31 = .ok (.iaload, 1) := by decide +kernel
theorem dX10_senderOf_32 : decode cX10_senderOf 32 = .ok (.iload_n 3, 1) := by decide +kernel
theorem dX10_senderOf_33 : decode cX10_senderOf 33 = .ok (.if_icmp .eq 9, 3) := by decide +kernel
theorem dX10_senderOf_36 : decode cX10_senderOf 36 = .ok (.iinc 4 1, 3) := by decide +kernel
theorem dX10_senderOf_39 : decode cX10_senderOf 39 = .ok (.goto (-36), 3) := by decide +kernel
theorem dX10_senderOf_42 : decode cX10_senderOf 42 = .ok (.aload_n 0, 1) := by decide +kernel
theorem dX10_senderOf_43 : decode cX10_senderOf 43 = .ok (.getfield 93, 3) := by decide +kernel
theorem dX10_senderOf_46 : decode cX10_senderOf 46 = .ok (.iload 4, 2) := by decide +kernel
theorem dX10_senderOf_48 : decode cX10_senderOf 48 = .ok (.iaload, 1) := by decide +kernel
theorem dX10_senderOf_49 : decode cX10_senderOf 49 = .ok (.ireturn, 1) := by decide +kernel
set_option maxRecDepth 20000 in
theorem ggX10_forgets_X10_cell : GoodIn wsX10_forgets wsX10_cell := goodIn_r _ [10] (by decide +kernel) (by decide +kernel)
set_option maxRecDepth 20000 in
theorem gX10_forgets_X10_cell : GoodIn wsX10_forgets (va_wsS RX10 163 yX10_cell wsX10_cell) := goodIn_app (goodIn_of _ (by decide +kernel)) ggX10_forgets_X10_cell
set_option maxRecDepth 20000 in
theorem ggX10_forgets_X10_isNear : GoodIn wsX10_forgets wsX10_isNear := goodIn_r _ [14, 15, 16, 17, 18, 19, 9, 20, 25, 26, 27, 28, 29, 30, 31, 32, 33, 34, 35, 36, 37, 38, 39, 40, 41, 42, 43, 44, 45, 46, 47, 48, 49, 50, 51, 52, 53, 54, 55, 56, 57, 58, 59, 60, 61, 62, 63, 64, 65, 66, 67, 68, 69] (by decide +kernel) (by decide +kernel)
set_option maxRecDepth 20000 in
theorem gX10_forgets_X10_isNear : GoodIn wsX10_forgets (wsV RX10 154 RX10 yX10_isNear wsX10_isNear) := goodIn_app (goodIn_of _ (by decide +kernel)) ggX10_forgets_X10_isNear
set_option maxRecDepth 20000 in
theorem ggX10_forgets_X10_dropPiece : GoodIn wsX10_forgets wsX10_dropPiece := goodIn_r _ [24, 4, 5, 7, 8, 9, 10, 25, 26, 27, 28, 29, 30, 31, 32, 33, 34, 35, 36, 37, 38, 39, 40, 41, 42, 43, 44, 45, 46, 47, 48, 49, 50, 51, 52, 53, 54, 55, 56, 57, 58, 59, 60, 61, 62, 63, 64, 65, 66, 67, 68, 69] (by decide +kernel) (by decide +kernel)
set_option maxRecDepth 20000 in
theorem gX10_forgets_X10_dropPiece : GoodIn wsX10_forgets (wsV RX10 183 RX10 yX10_dropPiece wsX10_dropPiece) := goodIn_app (goodIn_of _ (by decide +kernel)) ggX10_forgets_X10_dropPiece
theorem dX10_forgets_0 : decode cX10_forgets 0 = .ok (.iconst 0, 1) := by decide +kernel
theorem dX10_forgets_1 : decode cX10_forgets 1 = .ok (.istore_n 2, 1) := by decide +kernel
theorem dX10_forgets_2 : decode cX10_forgets 2 = .ok (.iload_n 2, 1) := by decide +kernel
theorem dX10_forgets_3 : decode cX10_forgets 3 = .ok (.aload_n 0, 1) := by decide +kernel
theorem dX10_forgets_4 : decode cX10_forgets 4 = .ok (.getfield 7, 3) := by decide +kernel
theorem dX10_forgets_7 : decode cX10_forgets 7 = .ok (.if_icmp .ge 115, 3) := by decide +kernel
theorem dX10_forgets_10 : decode cX10_forgets 10 = .ok (.aload_n 0, 1) := by decide +kernel
theorem dX10_forgets_11 : decode cX10_forgets 11 = .ok (.getfield 48, 3) := by decide +kernel
theorem dX10_forgets_14 : decode cX10_forgets 14 = .ok (.bipush 24, 2) := by decide +kernel
theorem dX10_forgets_16 : decode cX10_forgets 16 = .ok (.iload_n 1, 1) := by decide +kernel
theorem dX10_forgets_17 : decode cX10_forgets 17 = .ok (.imul, 1) := by decide +kernel
theorem dX10_forgets_18 : decode cX10_forgets 18 = .ok (.iload_n 2, 1) := by decide +kernel
theorem dX10_forgets_19 : decode cX10_forgets 19 = .ok (.iadd, 1) := by decide +kernel
theorem dX10_forgets_20 : decode cX10_forgets 20 = .ok (.baload, 1) := by decide +kernel
theorem dX10_forgets_21 : decode cX10_forgets 21 = .ok (.ifCond .ne 95, 3) := by decide +kernel
theorem dX10_forgets_24 : decode cX10_forgets 24 = .ok (.aload_n 0, 1) := by decide +kernel
theorem dX10_forgets_25 : decode cX10_forgets 25 = .ok (.getfield 51, 3) := by decide +kernel
theorem dX10_forgets_28 : decode cX10_forgets 28 = .ok (.bipush 24, 2) := by decide +kernel
theorem dX10_forgets_30 : decode cX10_forgets 30 = .ok (.iload_n 1, 1) := by decide +kernel
theorem dX10_forgets_31 : decode cX10_forgets 31 = .ok (.imul, 1) := by decide +kernel
theorem dX10_forgets_32 : decode cX10_forgets 32 = .ok (.iload_n 2, 1) := by decide +kernel
theorem dX10_forgets_33 : decode cX10_forgets 33 = .ok (.iadd, 1) := by decide +kernel
theorem dX10_forgets_34 : decode cX10_forgets 34 = .ok (.baload, 1) := by decide +kernel
theorem dX10_forgets_35 : decode cX10_forgets 35 = .ok (.ifCond .ne 6, 3) := by decide +kernel
theorem dX10_forgets_38 : decode cX10_forgets 38 = .ok (.goto 78, 3) := by decide +kernel
theorem dX10_forgets_41 : decode cX10_forgets 41 = .ok (.iconst 0, 1) := by decide +kernel
theorem dX10_forgets_42 : decode cX10_forgets 42 = .ok (.istore_n 3, 1) := by decide +kernel
theorem dX10_forgets_43 : decode cX10_forgets 43 = .ok (.iconst 0, 1) := by decide +kernel
theorem dX10_forgets_44 : decode cX10_forgets 44 = .ok (.istore 4, 2) := by decide +kernel
theorem dX10_forgets_46 : decode cX10_forgets 46 = .ok (.iload 4, 2) := by decide +kernel
theorem dX10_forgets_48 : decode cX10_forgets 48 = .ok (.aload_n 0, 1) := by decide +kernel
theorem dX10_forgets_49 : decode cX10_forgets 49 = .ok (.getfield 13, 3) := by decide +kernel
theorem dX10_forgets_52 : decode cX10_forgets 52 = .ok (.if_icmp .ge 54, 3) := by decide +kernel
theorem dX10_forgets_55 : decode cX10_forgets 55 = .ok (.iload_n 3, 1) := by decide +kernel
theorem dX10_forgets_56 : decode cX10_forgets 56 = .ok (.ifCond .ne 38, 3) := by decide +kernel
theorem dX10_forgets_59 : decode cX10_forgets 59 = .ok (.aload_n 0, 1) := by decide +kernel
theorem dX10_forgets_60 : decode cX10_forgets 60 = .ok (.getfield 54, 3) := by decide +kernel
theorem dX10_forgets_63 : decode cX10_forgets 63 = .ok (.iload_n 1, 1) := by decide +kernel
theorem dX10_forgets_64 : decode cX10_forgets 64 = .ok (.iload_n 2, 1) := by decide +kernel
theorem dX10_forgets_65 : decode cX10_forgets 65 = .ok (.iload 4, 2) := by decide +kernel
theorem dX10_forgets_67 : decode cX10_forgets 67 = .ok (.invokestatic 163, 3) := by decide +kernel
theorem dX10_forgets_70 : decode cX10_forgets 70 = .ok (.baload, 1) := by decide +kernel
theorem dX10_forgets_71 : decode cX10_forgets 71 = .ok (.ifCond .eq 27, 3) := by decide +kernel
theorem dX10_forgets_74 : decode cX10_forgets 74 = .ok (.aload_n 0, 1) := by decide +kernel
theorem dX10_forgets_75 : decode cX10_forgets 75 = .ok (.iload_n 1, 1) := by decide +kernel
theorem dX10_forgets_76 : decode cX10_forgets 76 = .ok (.aload_n 0, 1) := by decide +kernel
theorem dX10_forgets_77 : decode cX10_forgets 77 = .ok (.getfield 60, 3) := by decide +kernel
theorem dX10_forgets_80 : decode cX10_forgets 80 = .ok (.iload_n 1, 1) := by decide +kernel
theorem dX10_forgets_81 : decode cX10_forgets 81 = .ok (.iload_n 2, 1) := by decide +kernel
theorem dX10_forgets_82 : decode cX10_forgets 82 = .ok (.iload 4, 2) := by decide +kernel
theorem dX10_forgets_84 : decode cX10_forgets 84 = .ok (.invokestatic 163, 3) := by decide +kernel
theorem dX10_forgets_87 : decode cX10_forgets 87 = .ok (.iaload, 1) := by decide +kernel
theorem dX10_forgets_88 : decode cX10_forgets 88 = .ok (.invokevirtual 154, 3) := by decide +kernel
theorem dX10_forgets_91 : decode cX10_forgets 91 = .ok (.ifCond .ne 7, 3) := by decide +kernel
theorem dX10_forgets_94 : decode cX10_forgets 94 = .ok (.iconst 1, 1) := by decide +kernel
theorem dX10_forgets_95 : decode cX10_forgets 95 = .ok (.goto 4, 3) := by decide +kernel
theorem dX10_forgets_98 : decode cX10_forgets 98 = .ok (.iconst 0, 1) := by decide +kernel
theorem dX10_forgets_99 : decode cX10_forgets 99 = .ok (.istore_n 3, 1) := by decide +kernel
theorem dX10_forgets_100 : decode cX10_forgets 100 = .ok (.iinc 4 1, 3) := by decide +kernel
theorem dX10_forgets_103 : decode cX10_forgets 103 = .ok (.goto (-57), 3) := by decide +kernel
theorem dX10_forgets_106 : decode cX10_forgets 106 = .ok (.iload_n 3, 1) := by decide +kernel
theorem dX10_forgets_107 : decode cX10_forgets 107 = .ok (.ifCond .eq 9, 3) := by decide +kernel
theorem dX10_forgets_110 : decode cX10_forgets 110 = .ok (.aload_n 0, 1) := by decide +kernel
theorem dX10_forgets_111 : decode cX10_forgets 111 = .ok (.iload_n 1, 1) := by decide +kernel
theorem dX10_forgets_112 : decode cX10_forgets 112 = .ok (.iload_n 2, 1) := by decide +kernel
theorem dX10_forgets_113 : decode cX10_forgets 113 = .ok (.invokevirtual 183, 3) := by decide +kernel
theorem dX10_forgets_116 : decode cX10_forgets 116 = .ok (.iinc 2 1, 3) := by decide +kernel
theorem dX10_forgets_119 : decode cX10_forgets 119 = .ok (.goto (-117), 3) := by decide +kernel
theorem dX10_forgets_122 : decode cX10_forgets 122 = .ok (.return_, 1) := by decide +kernel
set_option maxRecDepth 20000 in
theorem ggX10_oneTick_X10_allCome : GoodIn wsX10_oneTick wsX10_allCome := goodIn_r _ [12, 13, 14, 1, 15, 16, 17, 18, 11, 19, 20, 21, 22, 23, 24, 25, 26, 27, 28, 29, 30, 31, 32, 33, 34, 35, 36, 37, 38, 39, 40, 41, 42, 43, 44, 45, 46, 47, 48, 49, 50, 51, 52, 53, 54, 55, 56, 57, 58, 59, 60, 61, 62, 63, 64, 65, 66, 2, 67, 68, 69, 70, 71, 72, 73, 74, 75, 76, 77, 78, 79, 80, 81, 82, 83, 84, 85, 161, 162, 163, 164, 165, 166, 167, 168, 169, 170, 171, 172, 173, 174, 175, 176, 177, 178, 179, 180, 181, 182, 183, 184, 185, 186, 187, 188, 189, 190, 191, 192, 193, 194, 195, 196, 197, 198, 199, 200, 201, 202, 203, 204, 205] (by decide +kernel) (by decide +kernel)
set_option maxRecDepth 20000 in
theorem gX10_oneTick_X10_allCome : GoodIn wsX10_oneTick (wsV RX10 248 RX10 yX10_allCome wsX10_allCome) := goodIn_app (goodIn_of _ (by decide +kernel)) ggX10_oneTick_X10_allCome
set_option maxRecDepth 20000 in
theorem ggX10_oneTick_X10_opens : GoodIn wsX10_oneTick wsX10_opens := goodIn_r _ [89, 90, 2, 91, 92, 93, 94, 95, 25, 36, 37, 11, 38, 96, 97, 98, 99, 77, 34, 100, 101, 102, 103, 104, 3, 68, 105, 106, 107, 108, 109, 110, 111, 112, 73, 74, 75, 76, 78, 79, 80, 81, 161, 162, 163, 164, 165, 166, 167, 168, 169, 170, 171, 172, 173, 174, 175, 176, 177, 178, 179, 180, 181, 182, 183, 184, 185, 186, 187, 188, 189, 190, 191, 192, 193, 194, 195, 196, 197, 198, 199, 200, 201, 202, 203, 204, 205] (by decide +kernel) (by decide +kernel)
set_option maxRecDepth 20000 in
theorem gX10_oneTick_X10_opens : GoodIn wsX10_oneTick (wsV RX10 252 RX10 yX10_opens wsX10_opens) := goodIn_app (goodIn_of _ (by decide +kernel)) ggX10_oneTick_X10_opens
set_option maxRecDepth 20000 in
theorem ggX10_oneTick_X10_forgets : GoodIn wsX10_oneTick wsX10_forgets := goodIn_r _ [116, 77, 34, 43, 32, 28, 31, 44, 45, 11, 46, 100, 101, 102, 103, 104, 3, 68, 36, 37, 38, 69, 70, 71, 72, 161, 162, 163, 164, 165, 166, 167, 168, 169, 170, 171, 172, 173, 174, 175, 176, 177, 178, 179, 180, 181, 182, 183, 184, 185, 186, 187, 188, 189, 190, 191, 192, 193, 194, 195, 196, 197, 198, 199, 200, 201, 202, 203, 204, 205] (by decide +kernel) (by decide +kernel)
set_option maxRecDepth 20000 in
theorem gX10_oneTick_X10_forgets : GoodIn wsX10_oneTick (wsV RX10 255 RX10 yX10_forgets wsX10_forgets) := goodIn_app (goodIn_of _ (by decide +kernel)) ggX10_oneTick_X10_forgets
set_option maxRecDepth 20000 in
theorem ggX10_oneTick_X10_asks : GoodIn wsX10_oneTick wsX10_asks := goodIn_r _ [120, 77, 34, 32, 43, 28, 121, 122, 123, 11, 124, 44, 45, 46, 125, 126, 127, 128, 13, 20, 22, 23, 129, 130, 131, 132, 31, 21, 133, 134, 135, 136, 2, 4, 137, 138, 139, 140, 91, 100, 101, 102, 103, 104, 3, 68, 36, 37, 38, 105, 106, 107, 108, 92, 141, 142, 143, 144, 47, 48, 49, 50, 145, 146, 147, 148, 149, 150, 151, 152, 6, 153, 154, 155, 95, 30, 156, 14, 1, 15, 55, 56, 57, 58, 59, 60, 157, 158, 159, 160, 161, 162, 163, 164, 165, 166, 167, 168, 169, 170, 171, 172, 173, 174, 175, 176, 177, 178, 179, 180, 181, 182, 183, 184, 185, 186, 187, 188, 189, 190, 191, 192, 193, 194, 195, 196, 197, 198, 199, 200, 201, 202, 203, 204, 205] (by decide +kernel) (by decide +kernel)
set_option maxRecDepth 20000 in
theorem gX10_oneTick_X10_asks : GoodIn wsX10_oneTick (wsV RX10 258 RX10 yX10_asks wsX10_asks) := goodIn_app (goodIn_of _ (by decide +kernel)) ggX10_oneTick_X10_asks
theorem dX10_oneTick_0 : decode cX10_oneTick 0 = .ok (.aload_n 0, 1) := by decide +kernel
theorem dX10_oneTick_1 : decode cX10_oneTick 1 = .ok (.dup, 1) := by decide +kernel
theorem dX10_oneTick_2 : decode cX10_oneTick 2 = .ok (.getfield 202, 3) := by decide +kernel
theorem dX10_oneTick_5 : decode cX10_oneTick 5 = .ok (.iconst 1, 1) := by decide +kernel
theorem dX10_oneTick_6 : decode cX10_oneTick 6 = .ok (.iadd, 1) := by decide +kernel
theorem dX10_oneTick_7 : decode cX10_oneTick 7 = .ok (.putfield 202, 3) := by decide +kernel
theorem dX10_oneTick_10 : decode cX10_oneTick 10 = .ok (.aload_n 0, 1) := by decide +kernel
theorem dX10_oneTick_11 : decode cX10_oneTick 11 = .ok (.iconst 0, 1) := by decide +kernel
theorem dX10_oneTick_12 : decode cX10_oneTick 12 = .ok (.invokevirtual 248, 3) := by decide +kernel
theorem dX10_oneTick_15 : decode cX10_oneTick 15 = .ok (.iconst 0, 1) := by decide +kernel
