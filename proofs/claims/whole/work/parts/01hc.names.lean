theorem dX10_bound__193 : decode cX10_bound_ 193 = .ok (.iload 4, 2) := by decide +kernel
theorem dX10_bound__195 : decode cX10_bound_ 195 = .ok (.imul, 1) := by decide +kernel
theorem dX10_bound__196 : decode cX10_bound_ 196 = .ok (.iload 5, 2) := by decide +kernel
theorem dX10_bound__198 : decode cX10_bound_ 198 = .ok (.invokestatic 283, 3) := by decide +kernel
theorem dX10_bound__201 : decode cX10_bound_ 201 = .ok (.goto 4, 3) := by decide +kernel
theorem dX10_bound__204 : decode cX10_bound_ 204 = .ok (.iload_n 3, 1) := by decide +kernel
theorem dX10_bound__205 : decode cX10_bound_ 205 = .ok (.ireturn, 1) := by decide +kernel
set_option maxRecDepth 20000 in
theorem ggX10_count__X10_count : GoodIn wsX10_count_ wsX10_count := goodIn_r _ [16] (by decide +kernel) (by decide +kernel)
set_option maxRecDepth 20000 in
theorem gX10_count__X10_count : GoodIn wsX10_count_ (wsV RX10 270 RX10 yX10_count wsX10_count) := goodIn_app (goodIn_of _ (by decide +kernel)) ggX10_count__X10_count
set_option maxRecDepth 20000 in
theorem ggX10_count__X10_isDone : GoodIn wsX10_count_ wsX10_isDone := goodIn_r _ [20, 5, 21, 22, 23, 15, 24, 25, 26, 27, 28, 29, 30, 31, 32, 33, 34, 35, 36, 37, 38, 39, 40, 41, 42, 43, 44, 45, 46, 47, 48, 49, 50, 51, 52, 53, 54, 55, 56, 57, 58, 59, 60, 61, 62, 63, 64, 65, 66, 67, 68, 69, 70] (by decide +kernel) (by decide +kernel)
set_option maxRecDepth 20000 in
theorem gX10_count__X10_isDone : GoodIn wsX10_count_ (wsV RX10 199 RX10 yX10_isDone wsX10_isDone) := goodIn_app (goodIn_of _ (by decide +kernel)) ggX10_count__X10_isDone
theorem dX10_count__0 : decode cX10_count_ 0 = .ok (.aload_n 0, 1) := by decide +kernel
theorem dX10_count__1 : decode cX10_count_ 1 = .ok (.iconst 0, 1) := by decide +kernel
theorem dX10_count__2 : decode cX10_count_ 2 = .ok (.putfield 120, 3) := by decide +kernel
theorem dX10_count__5 : decode cX10_count_ 5 = .ok (.iconst 0, 1) := by decide +kernel
theorem dX10_count__6 : decode cX10_count_ 6 = .ok (.istore_n 2, 1) := by decide +kernel
theorem dX10_count__7 : decode cX10_count_ 7 = .ok (.iload_n 1, 1) := by decide +kernel
theorem dX10_count__8 : decode cX10_count_ 8 = .ok (.tableswitch 162 0 10 #[60, 65, 70, 84, 127, 132, 137, 142, 147, 152, 157], 60) := by decide +kernel
theorem dX10_count__68 : decode cX10_count_ 68 = .ok (.aload_n 0, 1) := by decide +kernel
theorem dX10_count__69 : decode cX10_count_ 69 = .ok (.getfield 202, 3) := by decide +kernel
theorem dX10_count__72 : decode cX10_count_ 72 = .ok (.ireturn, 1) := by decide +kernel
theorem dX10_count__73 : decode cX10_count_ 73 = .ok (.aload_n 0, 1) := by decide +kernel
theorem dX10_count__74 : decode cX10_count_ 74 = .ok (.getfield 136, 3) := by decide +kernel
theorem dX10_count__77 : decode cX10_count_ 77 = .ok (.ireturn, 1) := by decide +kernel
theorem dX10_count__78 : decode cX10_count_ 78 = .ok (.aload_n 0, 1) := by decide +kernel
theorem dX10_count__79 : decode cX10_count_ 79 = .ok (.aload_n 0, 1) := by decide +kernel
theorem dX10_count__80 : decode cX10_count_ 80 = .ok (.getfield 26, 3) := by decide +kernel
theorem dX10_count__83 : decode cX10_count_ 83 = .ok (.iconst 0, 1) := by decide +kernel
theorem dX10_count__84 : decode cX10_count_ 84 = .ok (.aload_n 0, 1) := by decide +kernel
theorem dX10_count__85 : decode cX10_count_ 85 = .ok (.getfield 136, 3) := by decide +kernel
theorem dX10_count__88 : decode cX10_count_ 88 = .ok (.invokevirtual 270, 3) := by decide +kernel
theorem dX10_count__91 : decode cX10_count_ 91 = .ok (.ireturn, 1) := by decide +kernel
theorem dX10_count__92 : decode cX10_count_ 92 = .ok (.iconst 0, 1) := by decide +kernel
theorem dX10_count__93 : decode cX10_count_ 93 = .ok (.istore_n 3, 1) := by decide +kernel
theorem dX10_count__94 : decode cX10_count_ 94 = .ok (.iload_n 3, 1) := by decide +kernel
theorem dX10_count__95 : decode cX10_count_ 95 = .ok (.aload_n 0, 1) := by decide +kernel
theorem dX10_count__96 : decode cX10_count_ 96 = .ok (.getfield 136, 3) := by decide +kernel
theorem dX10_count__99 : decode cX10_count_ 99 = .ok (.if_icmp .ge 34, 3) := by decide +kernel
theorem dX10_count__102 : decode cX10_count_ 102 = .ok (.iload_n 2, 1) := by decide +kernel
theorem dX10_count__103 : decode cX10_count_ 103 = .ok (.aload_n 0, 1) := by decide +kernel
theorem dX10_count__104 : decode cX10_count_ 104 = .ok (.getfield 26, 3) := by decide +kernel
theorem dX10_count__107 : decode cX10_count_ 107 = .ok (.iload_n 3, 1) := by decide +kernel
theorem dX10_count__108 : decode cX10_count_ 108 = .ok (.baload, 1) := by decide +kernel
theorem dX10_count__109 : decode cX10_count_ 109 = .ok (.ifCond .eq 15, 3) := by decide +kernel
theorem dX10_count__112 : decode cX10_count_ 112 = .ok (.aload_n 0, 1) := by decide +kernel
theorem dX10_count__113 : decode cX10_count_ 113 = .ok (.iload_n 3, 1) := by decide +kernel
theorem dX10_count__114 : decode cX10_count_ 114 = .ok (.invokevirtual 199, 3) := by decide +kernel
theorem dX10_count__117 : decode cX10_count_ 117 = .ok (.ifCond .eq 7, 3) := by decide +kernel
theorem dX10_count__120 : decode cX10_count_ 120 = .ok (.iconst 1, 1) := by decide +kernel
theorem dX10_count__121 : decode cX10_count_ 121 = .ok (.goto 4, 3) := by decide +kernel
theorem dX10_count__124 : decode cX10_count_ 124 = .ok (.iconst 0, 1) := by decide +kernel
theorem dX10_count__125 : decode cX10_count_ 125 = .ok (.iadd, 1) := by decide +kernel
theorem dX10_count__126 : decode cX10_count_ 126 = .ok (.istore_n 2, 1) := by decide +kernel
theorem dX10_count__127 : decode cX10_count_ 127 = .ok (.iinc 3 1, 3) := by decide +kernel
theorem dX10_count__130 : decode cX10_count_ 130 = .ok (.goto (-36), 3) := by decide +kernel
theorem dX10_count__133 : decode cX10_count_ 133 = .ok (.iload_n 2, 1) := by decide +kernel
theorem dX10_count__134 : decode cX10_count_ 134 = .ok (.ireturn, 1) := by decide +kernel
theorem dX10_count__135 : decode cX10_count_ 135 = .ok (.aload_n 0, 1) := by decide +kernel
theorem dX10_count__136 : decode cX10_count_ 136 = .ok (.getfield 7, 3) := by decide +kernel
theorem dX10_count__139 : decode cX10_count_ 139 = .ok (.ireturn, 1) := by decide +kernel
theorem dX10_count__140 : decode cX10_count_ 140 = .ok (.aload_n 0, 1) := by decide +kernel
theorem dX10_count__141 : decode cX10_count_ 141 = .ok (.getfield 13, 3) := by decide +kernel
theorem dX10_count__144 : decode cX10_count_ 144 = .ok (.ireturn, 1) := by decide +kernel
theorem dX10_count__145 : decode cX10_count_ 145 = .ok (.aload_n 0, 1) := by decide +kernel
theorem dX10_count__146 : decode cX10_count_ 146 = .ok (.getfield 221, 3) := by decide +kernel
theorem dX10_count__149 : decode cX10_count_ 149 = .ok (.ireturn, 1) := by decide +kernel
theorem dX10_count__150 : decode cX10_count_ 150 = .ok (.aload_n 0, 1) := by decide +kernel
theorem dX10_count__151 : decode cX10_count_ 151 = .ok (.getfield 170, 3) := by decide +kernel
theorem dX10_count__154 : decode cX10_count_ 154 = .ok (.ireturn, 1) := by decide +kernel
theorem dX10_count__155 : decode cX10_count_ 155 = .ok (.aload_n 0, 1) := by decide +kernel
theorem dX10_count__156 : decode cX10_count_ 156 = .ok (.getfield 177, 3) := by decide +kernel
theorem dX10_count__159 : decode cX10_count_ 159 = .ok (.ireturn, 1) := by decide +kernel
theorem dX10_count__160 : decode cX10_count_ 160 = .ok (.aload_n 0, 1) := by decide +kernel
theorem dX10_count__161 : decode cX10_count_ 161 = .ok (.getfield 180, 3) := by decide +kernel
theorem dX10_count__164 : decode cX10_count_ 164 = .ok (.ireturn, 1) := by decide +kernel
theorem dX10_count__165 : decode cX10_count_ 165 = .ok (.aload_n 0, 1) := by decide +kernel
theorem dX10_count__166 : decode cX10_count_ 166 = .ok (.getfield 190, 3) := by decide +kernel
theorem dX10_count__169 : decode cX10_count_ 169 = .ok (.ireturn, 1) := by decide +kernel
theorem dX10_count__170 : decode cX10_count_ 170 = .ok (.iconst (-1), 1) := by decide +kernel
theorem dX10_count__171 : decode cX10_count_ 171 = .ok (.ireturn, 1) := by decide +kernel
theorem dJ6_bitCount_0f7a4_0 : decode cJ6_bitCount_0f7a4 0 = .ok (.iload_n 0, 1) := by decide +kernel
theorem dJ6_bitCount_0f7a4_1 : decode cJ6_bitCount_0f7a4 1 = .ok (.iload_n 0, 1) := by decide +kernel
theorem dJ6_bitCount_0f7a4_2 : decode cJ6_bitCount_0f7a4 2 = .ok (.iconst 1, 1) := by decide +kernel
theorem dJ6_bitCount_0f7a4_3 : decode cJ6_bitCount_0f7a4 3 = .ok (.iushr, 1) := by decide +kernel
theorem dJ6_bitCount_0f7a4_4 : decode cJ6_bitCount_0f7a4 4 = .ok (.ldc_w 265, 3) := by decide +kernel
theorem dJ6_bitCount_0f7a4_7 : decode cJ6_bitCount_0f7a4 7 = .ok (.iand, 1) := by decide +kernel
theorem dJ6_bitCount_0f7a4_8 : decode cJ6_bitCount_0f7a4 8 = .ok (.isub, 1) := by decide +kernel
theorem dJ6_bitCount_0f7a4_9 : decode cJ6_bitCount_0f7a4 9 = .ok (.istore_n 0, 1) := by decide +kernel
theorem dJ6_bitCount_0f7a4_10 : decode cJ6_bitCount_0f7a4 10 = .ok (.iload_n 0, 1) := by decide +kernel
theorem dJ6_bitCount_0f7a4_11 : decode cJ6_bitCount_0f7a4 11 = .ok (.ldc_w 266, 3) := by decide +kernel
theorem dJ6_bitCount_0f7a4_14 : decode cJ6_bitCount_0f7a4 14 = .ok (.iand, 1) := by decide +kernel
theorem dJ6_bitCount_0f7a4_15 : decode cJ6_bitCount_0f7a4 15 = .ok (.iload_n 0, 1) := by decide +kernel
theorem dJ6_bitCount_0f7a4_16 : decode cJ6_bitCount_0f7a4 16 = .ok (.iconst 2, 1) := by decide +kernel
theorem dJ6_bitCount_0f7a4_17 : decode cJ6_bitCount_0f7a4 17 = .ok (.iushr, 1) := by decide +kernel
theorem dJ6_bitCount_0f7a4_18 : decode cJ6_bitCount_0f7a4 18 = .ok (.ldc_w 266, 3) := by decide +kernel
theorem dJ6_bitCount_0f7a4_21 : decode cJ6_bitCount_0f7a4 21 = .ok (.iand, 1) := by decide +kernel
theorem dJ6_bitCount_0f7a4_22 : decode cJ6_bitCount_0f7a4 22 = .ok (.iadd, 1) := by decide +kernel
theorem dJ6_bitCount_0f7a4_23 : decode cJ6_bitCount_0f7a4 23 = .ok (.istore_n 0, 1) := by decide +kernel
theorem dJ6_bitCount_0f7a4_24 : decode cJ6_bitCount_0f7a4 24 = .ok (.iload_n 0, 1) := by decide +kernel
theorem dJ6_bitCount_0f7a4_25 : decode cJ6_bitCount_0f7a4 25 = .ok (.iload_n 0, 1) := by decide +kernel
theorem dJ6_bitCount_0f7a4_26 : decode cJ6_bitCount_0f7a4 26 = .ok (.iconst 4, 1) := by decide +kernel
theorem dJ6_bitCount_0f7a4_27 : decode cJ6_bitCount_0f7a4 27 = .ok (.iushr, 1) := by decide +kernel
theorem dJ6_bitCount_0f7a4_28 : decode cJ6_bitCount_0f7a4 28 = .ok (.iadd, 1) := by decide +kernel
theorem dJ6_bitCount_0f7a4_29 : decode cJ6_bitCount_0f7a4 29 = .ok (.ldc_w 267, 3) := by decide +kernel
theorem dJ6_bitCount_0f7a4_32 : decode cJ6_bitCount_0f7a4 32 = .ok (.iand, 1) := by decide +kernel
theorem dJ6_bitCount_0f7a4_33 : decode cJ6_bitCount_0f7a4 33 = .ok (.istore_n 0, 1) := by decide +kernel
theorem dJ6_bitCount_0f7a4_34 : decode cJ6_bitCount_0f7a4 34 = .ok (.iload_n 0, 1) := by decide +kernel
theorem dJ6_bitCount_0f7a4_35 : decode cJ6_bitCount_0f7a4 35 = .ok (.iload_n 0, 1) := by decide +kernel
theorem dJ6_bitCount_0f7a4_36 : decode cJ6_bitCount_0f7a4 36 = .ok (.bipush 8, 2) := by decide +kernel
theorem dJ6_bitCount_0f7a4_38 : decode cJ6_bitCount_0f7a4 38 = .ok (.iushr, 1) := by decide +kernel
theorem dJ6_bitCount_0f7a4_39 : decode cJ6_bitCount_0f7a4 39 = .ok (.iadd, 1) := by decide +kernel
theorem dJ6_bitCount_0f7a4_40 : decode cJ6_bitCount_0f7a4 40 = .ok (.istore_n 0, 1) := by decide +kernel
theorem dJ6_bitCount_0f7a4_41 : decode cJ6_bitCount_0f7a4 41 = .ok (.iload_n 0, 1) := by decide +kernel
theorem dJ6_bitCount_0f7a4_42 : decode cJ6_bitCount_0f7a4 42 = .ok (.iload_n 0, 1) := by decide +kernel
theorem dJ6_bitCount_0f7a4_43 : decode cJ6_bitCount_0f7a4 43 = .ok (.bipush 16, 2) := by decide +kernel
theorem dJ6_bitCount_0f7a4_45 : decode cJ6_bitCount_0f7a4 45 = .ok (.iushr, 1) := by decide +kernel
theorem dJ6_bitCount_0f7a4_46 : decode cJ6_bitCount_0f7a4 46 = .ok (.iadd, 1) := by decide +kernel
theorem dJ6_bitCount_0f7a4_47 : decode cJ6_bitCount_0f7a4 47 = .ok (.istore_n 0, 1) := by decide +kernel
theorem dJ6_bitCount_0f7a4_48 : decode cJ6_bitCount_0f7a4 48 = .ok (.iload_n 0, 1) := by decide +kernel
theorem dJ6_bitCount_0f7a4_49 : decode cJ6_bitCount_0f7a4 49 = .ok (.bipush 63, 2) := by decide +kernel
theorem dJ6_bitCount_0f7a4_51 : decode cJ6_bitCount_0f7a4 51 = .ok (.iand, 1) := by decide +kernel
theorem dJ6_bitCount_0f7a4_52 : decode cJ6_bitCount_0f7a4 52 = .ok (.ireturn, 1) := by decide +kernel
theorem dJ9_max_7cf53_0 : decode cJ9_max_7cf53 0 = .ok (.iload_n 0, 1) := by decide +kernel
theorem dJ9_max_7cf53_1 : decode cJ9_max_7cf53 1 = .ok (.iload_n 1, 1) := by decide +kernel
theorem dJ9_max_7cf53_2 : decode cJ9_max_7cf53 2 = .ok (.if_icmp .lt 7, 3) := by decide +kernel
theorem dJ9_max_7cf53_5 : decode cJ9_max_7cf53 5 = .ok (.iload_n 0, 1) := by decide +kernel
theorem dJ9_max_7cf53_6 : decode cJ9_max_7cf53 6 = .ok (.goto 4, 3) := by decide +kernel
theorem dJ9_max_7cf53_9 : decode cJ9_max_7cf53 9 = .ok (.iload_n 1, 1) := by decide +kernel
theorem dJ9_max_7cf53_10 : decode cJ9_max_7cf53 10 = .ok (.ireturn, 1) := by decide +kernel
abbrev vwCl : List vw_C := [(RX0, TX0, 1), (RX1, TX1, 1), (RX2, TX2, 8), (RX3, TX3, 13), (RX4, TX4, 1), (RX5, TX5, 7), (RX6, TX6, 6), (RX7, TX7, 10), (RX8, TX8, 3), (RX9, TX9, 4), (RX10, TX10, 45)]


