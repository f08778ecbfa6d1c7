theorem dX10_oneTick_16 : decode cX10_oneTick 16 = .ok (.istore_n 1, 1) := by decide +kernel
theorem dX10_oneTick_17 : decode cX10_oneTick 17 = .ok (.iload_n 1, 1) := by decide +kernel
theorem dX10_oneTick_18 : decode cX10_oneTick 18 = .ok (.aload_n 0, 1) := by decide +kernel
theorem dX10_oneTick_19 : decode cX10_oneTick 19 = .ok (.getfield 136, 3) := by decide +kernel
theorem dX10_oneTick_22 : decode cX10_oneTick 22 = .ok (.if_icmp .ge 33, 3) := by decide +kernel
theorem dX10_oneTick_25 : decode cX10_oneTick 25 = .ok (.aload_n 0, 1) := by decide +kernel
theorem dX10_oneTick_26 : decode cX10_oneTick 26 = .ok (.getfield 202, 3) := by decide +kernel
theorem dX10_oneTick_29 : decode cX10_oneTick 29 = .ok (.iconst 4, 1) := by decide +kernel
theorem dX10_oneTick_30 : decode cX10_oneTick 30 = .ok (.irem, 1) := by decide +kernel
theorem dX10_oneTick_31 : decode cX10_oneTick 31 = .ok (.iconst 1, 1) := by decide +kernel
theorem dX10_oneTick_32 : decode cX10_oneTick 32 = .ok (.if_icmp .ne 23, 3) := by decide +kernel
theorem dX10_oneTick_35 : decode cX10_oneTick 35 = .ok (.aload_n 0, 1) := by decide +kernel
theorem dX10_oneTick_36 : decode cX10_oneTick 36 = .ok (.getfield 26, 3) := by decide +kernel
theorem dX10_oneTick_39 : decode cX10_oneTick 39 = .ok (.iload_n 1, 1) := by decide +kernel
theorem dX10_oneTick_40 : decode cX10_oneTick 40 = .ok (.baload, 1) := by decide +kernel
theorem dX10_oneTick_41 : decode cX10_oneTick 41 = .ok (.ifCond .eq 8, 3) := by decide +kernel
theorem dX10_oneTick_44 : decode cX10_oneTick 44 = .ok (.aload_n 0, 1) := by decide +kernel
theorem dX10_oneTick_45 : decode cX10_oneTick 45 = .ok (.iload_n 1, 1) := by decide +kernel
theorem dX10_oneTick_46 : decode cX10_oneTick 46 = .ok (.invokevirtual 252, 3) := by decide +kernel
theorem dX10_oneTick_49 : decode cX10_oneTick 49 = .ok (.iinc 1 1, 3) := by decide +kernel
theorem dX10_oneTick_52 : decode cX10_oneTick 52 = .ok (.goto (-35), 3) := by decide +kernel
theorem dX10_oneTick_55 : decode cX10_oneTick 55 = .ok (.iconst 0, 1) := by decide +kernel
theorem dX10_oneTick_56 : decode cX10_oneTick 56 = .ok (.istore_n 1, 1) := by decide +kernel
theorem dX10_oneTick_57 : decode cX10_oneTick 57 = .ok (.iload_n 1, 1) := by decide +kernel
theorem dX10_oneTick_58 : decode cX10_oneTick 58 = .ok (.aload_n 0, 1) := by decide +kernel
theorem dX10_oneTick_59 : decode cX10_oneTick 59 = .ok (.getfield 136, 3) := by decide +kernel
theorem dX10_oneTick_62 : decode cX10_oneTick 62 = .ok (.if_icmp .ge 73, 3) := by decide +kernel
theorem dX10_oneTick_65 : decode cX10_oneTick 65 = .ok (.aload_n 0, 1) := by decide +kernel
theorem dX10_oneTick_66 : decode cX10_oneTick 66 = .ok (.getfield 114, 3) := by decide +kernel
theorem dX10_oneTick_69 : decode cX10_oneTick 69 = .ok (.iload_n 1, 1) := by decide +kernel
theorem dX10_oneTick_70 : decode cX10_oneTick 70 = .ok (.aload_n 0, 1) := by decide +kernel
theorem dX10_oneTick_71 : decode cX10_oneTick 71 = .ok (.getfield 26, 3) := by decide +kernel
theorem dX10_oneTick_74 : decode cX10_oneTick 74 = .ok (.iload_n 1, 1) := by decide +kernel
theorem dX10_oneTick_75 : decode cX10_oneTick 75 = .ok (.baload, 1) := by decide +kernel
theorem dX10_oneTick_76 : decode cX10_oneTick 76 = .ok (.ifCond .eq 12, 3) := by decide +kernel
theorem dX10_oneTick_79 : decode cX10_oneTick 79 = .ok (.aload_n 0, 1) := by decide +kernel
theorem dX10_oneTick_80 : decode cX10_oneTick 80 = .ok (.getfield 20, 3) := by decide +kernel
theorem dX10_oneTick_83 : decode cX10_oneTick 83 = .ok (.iload_n 1, 1) := by decide +kernel
theorem dX10_oneTick_84 : decode cX10_oneTick 84 = .ok (.iaload, 1) := by decide +kernel
theorem dX10_oneTick_85 : decode cX10_oneTick 85 = .ok (.goto 4, 3) := by decide +kernel
theorem dX10_oneTick_88 : decode cX10_oneTick 88 = .ok (.iconst 0, 1) := by decide +kernel
theorem dX10_oneTick_89 : decode cX10_oneTick 89 = .ok (.iastore, 1) := by decide +kernel
theorem dX10_oneTick_90 : decode cX10_oneTick 90 = .ok (.aload_n 0, 1) := by decide +kernel
theorem dX10_oneTick_91 : decode cX10_oneTick 91 = .ok (.getfield 117, 3) := by decide +kernel
theorem dX10_oneTick_94 : decode cX10_oneTick 94 = .ok (.iload_n 1, 1) := by decide +kernel
theorem dX10_oneTick_95 : decode cX10_oneTick 95 = .ok (.aload_n 0, 1) := by decide +kernel
theorem dX10_oneTick_96 : decode cX10_oneTick 96 = .ok (.getfield 26, 3) := by decide +kernel
theorem dX10_oneTick_99 : decode cX10_oneTick 99 = .ok (.iload_n 1, 1) := by decide +kernel
theorem dX10_oneTick_100 : decode cX10_oneTick 100 = .ok (.baload, 1) := by decide +kernel
theorem dX10_oneTick_101 : decode cX10_oneTick 101 = .ok (.ifCond .eq 12, 3) := by decide +kernel
theorem dX10_oneTick_104 : decode cX10_oneTick 104 = .ok (.aload_n 0, 1) := by decide +kernel
theorem dX10_oneTick_105 : decode cX10_oneTick 105 = .ok (.getfield 23, 3) := by decide +kernel
theorem dX10_oneTick_108 : decode cX10_oneTick 108 = .ok (.iload_n 1, 1) := by decide +kernel
theorem dX10_oneTick_109 : decode cX10_oneTick 109 = .ok (.iaload, 1) := by decide +kernel
theorem dX10_oneTick_110 : decode cX10_oneTick 110 = .ok (.goto 4, 3) := by decide +kernel
theorem dX10_oneTick_113 : decode cX10_oneTick 113 = .ok (.iconst 0, 1) := by decide +kernel
theorem dX10_oneTick_114 : decode cX10_oneTick 114 = .ok (.iastore, 1) := by decide +kernel
theorem dX10_oneTick_115 : decode cX10_oneTick 115 = .ok (.aload_n 0, 1) := by decide +kernel
theorem dX10_oneTick_116 : decode cX10_oneTick 116 = .ok (.getfield 26, 3) := by decide +kernel
theorem dX10_oneTick_119 : decode cX10_oneTick 119 = .ok (.iload_n 1, 1) := by decide +kernel
theorem dX10_oneTick_120 : decode cX10_oneTick 120 = .ok (.baload, 1) := by decide +kernel
theorem dX10_oneTick_121 : decode cX10_oneTick 121 = .ok (.ifCond .eq 8, 3) := by decide +kernel
theorem dX10_oneTick_124 : decode cX10_oneTick 124 = .ok (.aload_n 0, 1) := by decide +kernel
theorem dX10_oneTick_125 : decode cX10_oneTick 125 = .ok (.iload_n 1, 1) := by decide +kernel
theorem dX10_oneTick_126 : decode cX10_oneTick 126 = .ok (.invokevirtual 255, 3) := by decide +kernel
theorem dX10_oneTick_129 : decode cX10_oneTick 129 = .ok (.iinc 1 1, 3) := by decide +kernel
theorem dX10_oneTick_132 : decode cX10_oneTick 132 = .ok (.goto (-75), 3) := by decide +kernel
theorem dX10_oneTick_135 : decode cX10_oneTick 135 = .ok (.iconst 1, 1) := by decide +kernel
theorem dX10_oneTick_136 : decode cX10_oneTick 136 = .ok (.istore_n 1, 1) := by decide +kernel
theorem dX10_oneTick_137 : decode cX10_oneTick 137 = .ok (.iload_n 1, 1) := by decide +kernel
theorem dX10_oneTick_138 : decode cX10_oneTick 138 = .ok (.ifCond .eq 43, 3) := by decide +kernel
theorem dX10_oneTick_141 : decode cX10_oneTick 141 = .ok (.iconst 0, 1) := by decide +kernel
theorem dX10_oneTick_142 : decode cX10_oneTick 142 = .ok (.istore_n 1, 1) := by decide +kernel
theorem dX10_oneTick_143 : decode cX10_oneTick 143 = .ok (.iconst 0, 1) := by decide +kernel
theorem dX10_oneTick_144 : decode cX10_oneTick 144 = .ok (.istore_n 2, 1) := by decide +kernel
theorem dX10_oneTick_145 : decode cX10_oneTick 145 = .ok (.iload_n 2, 1) := by decide +kernel
theorem dX10_oneTick_146 : decode cX10_oneTick 146 = .ok (.aload_n 0, 1) := by decide +kernel
theorem dX10_oneTick_147 : decode cX10_oneTick 147 = .ok (.getfield 136, 3) := by decide +kernel
theorem dX10_oneTick_150 : decode cX10_oneTick 150 = .ok (.if_icmp .ge 28, 3) := by decide +kernel
theorem dX10_oneTick_153 : decode cX10_oneTick 153 = .ok (.aload_n 0, 1) := by decide +kernel
theorem dX10_oneTick_154 : decode cX10_oneTick 154 = .ok (.getfield 117, 3) := by decide +kernel
theorem dX10_oneTick_157 : decode cX10_oneTick 157 = .ok (.iload_n 2, 1) := by decide +kernel
theorem dX10_oneTick_158 : decode cX10_oneTick 158 = .ok (.iaload, 1) := by decide +kernel
theorem dX10_oneTick_159 : decode cX10_oneTick 159 = .ok (.ifCond .le 13, 3) := by decide +kernel
theorem dX10_oneTick_162 : decode cX10_oneTick 162 = .ok (.aload_n 0, 1) := by decide +kernel
theorem dX10_oneTick_163 : decode cX10_oneTick 163 = .ok (.iload_n 2, 1) := by decide +kernel
theorem dX10_oneTick_164 : decode cX10_oneTick 164 = .ok (.invokevirtual 258, 3) := by decide +kernel
theorem dX10_oneTick_167 : decode cX10_oneTick 167 = .ok (.ifCond .eq 5, 3) := by decide +kernel
theorem dX10_oneTick_170 : decode cX10_oneTick 170 = .ok (.iconst 1, 1) := by decide +kernel
theorem dX10_oneTick_171 : decode cX10_oneTick 171 = .ok (.istore_n 1, 1) := by decide +kernel
theorem dX10_oneTick_172 : decode cX10_oneTick 172 = .ok (.iinc 2 1, 3) := by decide +kernel
theorem dX10_oneTick_175 : decode cX10_oneTick 175 = .ok (.goto (-30), 3) := by decide +kernel
theorem dX10_oneTick_178 : decode cX10_oneTick 178 = .ok (.goto (-41), 3) := by decide +kernel
theorem dX10_oneTick_181 : decode cX10_oneTick 181 = .ok (.aload_n 0, 1) := by decide +kernel
theorem dX10_oneTick_182 : decode cX10_oneTick 182 = .ok (.iconst 1, 1) := by decide +kernel
theorem dX10_oneTick_183 : decode cX10_oneTick 183 = .ok (.invokevirtual 248, 3) := by decide +kernel
theorem dX10_oneTick_186 : decode cX10_oneTick 186 = .ok (.return_, 1) := by decide +kernel
set_option maxRecDepth 20000 in
theorem ggX10_tick_X10_in : GoodIn wsX10_tick wsX10_in := goodIn_r _ [6] (by decide +kernel) (by decide +kernel)
set_option maxRecDepth 20000 in
theorem gX10_tick_X10_in : GoodIn wsX10_tick (va_wsS RX10 132 yX10_in wsX10_in) := goodIn_app (goodIn_of _ (by decide +kernel)) ggX10_tick_X10_in
set_option maxRecDepth 20000 in
theorem ggX10_tick_X10_oneTick : GoodIn wsX10_tick wsX10_oneTick := goodIn_r _ [10, 11, 12, 13, 14, 15, 16, 17, 18, 19, 20, 5, 21, 22, 23, 24, 25, 26, 27, 28, 29, 30, 31, 32, 33, 34, 35, 36, 37, 38, 39, 40, 41, 42, 43, 44, 45, 46, 47, 48, 49, 50, 51, 52, 53, 54, 55, 56, 57, 58, 59, 60, 61, 62, 63, 64, 65, 66, 67, 68, 69, 70, 71, 72, 73, 74, 75, 76, 77, 78, 79, 80, 81, 82, 83, 84, 85, 86, 87, 88, 89, 90, 91, 92, 93, 94, 95, 96, 97, 98, 99, 100, 101, 102, 103, 104, 105, 106, 107, 108, 109, 110, 111, 112, 113, 114, 115, 116, 117, 118, 119, 120, 121, 122, 123, 124, 125, 126, 127, 128, 129, 130, 131, 132, 133, 134, 135, 136, 137, 138, 139, 140, 141, 142, 143, 144, 145, 146, 147, 148, 149, 150, 151, 152, 153, 154, 155, 156, 157, 158, 159, 160, 161, 162, 2, 163, 164, 165, 166, 167, 168, 169, 170, 171, 172, 173, 174, 175, 176, 177, 178, 179, 180, 181, 182, 183, 184, 185, 186, 187, 188, 189, 190, 191, 192, 193, 194, 195, 196, 197, 198, 199, 200, 201, 202, 203, 204, 205, 206, 207, 208, 209, 210, 211, 212, 213] rfl (by decide +kernel)
set_option maxRecDepth 20000 in
theorem gX10_tick_X10_oneTick : GoodIn wsX10_tick (wsV RX10 261 RX10 yX10_oneTick wsX10_oneTick) := goodIn_app (goodIn_of _ (by decide +kernel)) ggX10_tick_X10_oneTick
theorem dX10_tick_0 : decode cX10_tick 0 = .ok (.aload_n 0, 1) := by decide +kernel
theorem dX10_tick_1 : decode cX10_tick 1 = .ok (.iconst 0, 1) := by decide +kernel
theorem dX10_tick_2 : decode cX10_tick 2 = .ok (.putfield 120, 3) := by decide +kernel
theorem dX10_tick_5 : decode cX10_tick 5 = .ok (.iload_n 1, 1) := by decide +kernel
theorem dX10_tick_6 : decode cX10_tick 6 = .ok (.iconst 0, 1) := by decide +kernel
theorem dX10_tick_7 : decode cX10_tick 7 = .ok (.bipush 50, 2) := by decide +kernel
theorem dX10_tick_9 : decode cX10_tick 9 = .ok (.invokestatic 132, 3) := by decide +kernel
theorem dX10_tick_12 : decode cX10_tick 12 = .ok (.ifCond .ne 5, 3) := by decide +kernel
theorem dX10_tick_15 : decode cX10_tick 15 = .ok (.iconst (-1), 1) := by decide +kernel
theorem dX10_tick_16 : decode cX10_tick 16 = .ok (.ireturn, 1) := by decide +kernel
theorem dX10_tick_17 : decode cX10_tick 17 = .ok (.aload_n 0, 1) := by decide +kernel
theorem dX10_tick_18 : decode cX10_tick 18 = .ok (.getfield 221, 3) := by decide +kernel
theorem dX10_tick_21 : decode cX10_tick 21 = .ok (.istore_n 2, 1) := by decide +kernel
theorem dX10_tick_22 : decode cX10_tick 22 = .ok (.iconst 0, 1) := by decide +kernel
theorem dX10_tick_23 : decode cX10_tick 23 = .ok (.istore_n 3, 1) := by decide +kernel
theorem dX10_tick_24 : decode cX10_tick 24 = .ok (.iload_n 3, 1) := by decide +kernel
theorem dX10_tick_25 : decode cX10_tick 25 = .ok (.iload_n 1, 1) := by decide +kernel
theorem dX10_tick_26 : decode cX10_tick 26 = .ok (.if_icmp .ge 13, 3) := by decide +kernel
theorem dX10_tick_29 : decode cX10_tick 29 = .ok (.aload_n 0, 1) := by decide +kernel
theorem dX10_tick_30 : decode cX10_tick 30 = .ok (.invokevirtual 261, 3) := by decide +kernel
theorem dX10_tick_33 : decode cX10_tick 33 = .ok (.iinc 3 1, 3) := by decide +kernel
theorem dX10_tick_36 : decode cX10_tick 36 = .ok (.goto (-12), 3) := by decide +kernel
theorem dX10_tick_39 : decode cX10_tick 39 = .ok (.aload_n 0, 1) := by decide +kernel
theorem dX10_tick_40 : decode cX10_tick 40 = .ok (.getfield 221, 3) := by decide +kernel
theorem dX10_tick_43 : decode cX10_tick 43 = .ok (.iload_n 2, 1) := by decide +kernel
theorem dX10_tick_44 : decode cX10_tick 44 = .ok (.isub, 1) := by decide +kernel
theorem dX10_tick_45 : decode cX10_tick 45 = .ok (.ireturn, 1) := by decide +kernel
set_option maxRecDepth 20000 in
theorem ggX10_holdsMany_X10_heldMany : GoodIn wsX10_holdsMany wsX10_heldMany := goodIn_r _ [7, 8, 9, 10, 11, 6, 12, 13, 14, 15, 16, 17, 18, 19, 20, 21, 22, 23, 24, 25, 26, 27, 28, 29, 30, 31, 32, 33, 34, 35, 36, 37, 38, 39, 40, 41, 42, 43, 44, 45, 46, 47, 48, 49, 50, 51, 52, 53, 54, 55, 56, 57] (by decide +kernel) (by decide +kernel)
set_option maxRecDepth 20000 in
theorem gX10_holdsMany_X10_heldMany : GoodIn wsX10_holdsMany (wsV RX10 193 RX10 yX10_heldMany wsX10_heldMany) := goodIn_app (goodIn_of _ (by decide +kernel)) ggX10_holdsMany_X10_heldMany
theorem dX10_holdsMany_0 : decode cX10_holdsMany 0 = .ok (.iconst 0, 1) := by decide +kernel
theorem dX10_holdsMany_1 : decode cX10_holdsMany 1 = .ok (.istore_n 2, 1) := by decide +kernel
theorem dX10_holdsMany_2 : decode cX10_holdsMany 2 = .ok (.iconst 0, 1) := by decide +kernel
theorem dX10_holdsMany_3 : decode cX10_holdsMany 3 = .ok (.istore_n 3, 1) := by decide +kernel
theorem dX10_holdsMany_4 : decode cX10_holdsMany 4 = .ok (.iload_n 3, 1) := by decide +kernel
theorem dX10_holdsMany_5 : decode cX10_holdsMany 5 = .ok (.aload_n 0, 1) := by decide +kernel
theorem dX10_holdsMany_6 : decode cX10_holdsMany 6 = .ok (.getfield 7, 3) := by decide +kernel
theorem dX10_holdsMany_9 : decode cX10_holdsMany 9 = .ok (.if_icmp .ge 36, 3) := by decide +kernel
theorem dX10_holdsMany_12 : decode cX10_holdsMany 12 = .ok (.iload_n 2, 1) := by decide +kernel
theorem dX10_holdsMany_13 : decode cX10_holdsMany 13 = .ok (.aload_n 0, 1) := by decide +kernel
theorem dX10_holdsMany_14 : decode cX10_holdsMany 14 = .ok (.getfield 48, 3) := by decide +kernel
theorem dX10_holdsMany_17 : decode cX10_holdsMany 17 = .ok (.bipush 24, 2) := by decide +kernel
theorem dX10_holdsMany_19 : decode cX10_holdsMany 19 = .ok (.iload_n 1, 1) := by decide +kernel
theorem dX10_holdsMany_20 : decode cX10_holdsMany 20 = .ok (.imul, 1) := by decide +kernel
theorem dX10_holdsMany_21 : decode cX10_holdsMany 21 = .ok (.iload_n 3, 1) := by decide +kernel
theorem dX10_holdsMany_22 : decode cX10_holdsMany 22 = .ok (.iadd, 1) := by decide +kernel
theorem dX10_holdsMany_23 : decode cX10_holdsMany 23 = .ok (.baload, 1) := by decide +kernel
theorem dX10_holdsMany_24 : decode cX10_holdsMany 24 = .ok (.ifCond .eq 7, 3) := by decide +kernel
theorem dX10_holdsMany_27 : decode cX10_holdsMany 27 = .ok (.iconst 0, 1) := by decide +kernel
theorem dX10_holdsMany_28 : decode cX10_holdsMany 28 = .ok (.goto 9, 3) := by decide +kernel
theorem dX10_holdsMany_31 : decode cX10_holdsMany 31 = .ok (.aload_n 0, 1) := by decide +kernel
theorem dX10_holdsMany_32 : decode cX10_holdsMany 32 = .ok (.iload_n 1, 1) := by decide +kernel
theorem dX10_holdsMany_33 : decode cX10_holdsMany 33 = .ok (.iload_n 3, 1) := by decide +kernel
theorem dX10_holdsMany_34 : decode cX10_holdsMany 34 = .ok (.invokevirtual 193, 3) := by decide +kernel
theorem dX10_holdsMany_37 : decode cX10_holdsMany 37 = .ok (.iadd, 1) := by decide +kernel
theorem dX10_holdsMany_38 : decode cX10_holdsMany 38 = .ok (.istore_n 2, 1) := by decide +kernel
theorem dX10_holdsMany_39 : decode cX10_holdsMany 39 = .ok (.iinc 3 1, 3) := by decide +kernel
theorem dX10_holdsMany_42 : decode cX10_holdsMany 42 = .ok (.goto (-38), 3) := by decide +kernel
theorem dX10_holdsMany_45 : decode cX10_holdsMany 45 = .ok (.iload_n 2, 1) := by decide +kernel
theorem dX10_holdsMany_46 : decode cX10_holdsMany 46 = .ok (.ireturn, 1) := by decide +kernel
theorem dX10_count_0 : decode cX10_count 0 = .ok (.iconst 0, 1) := by decide +kernel
theorem dX10_count_1 : decode cX10_count 1 = .ok (.istore 4, 2) := by decide +kernel
theorem dX10_count_3 : decode cX10_count 3 = .ok (.iconst 0, 1) := by decide +kernel
theorem dX10_count_4 : decode cX10_count 4 = .ok (.istore 5, 2) := by decide +kernel
theorem dX10_count_6 : decode cX10_count 6 = .ok (.iload 5, 2) := by decide +kernel
theorem dX10_count_8 : decode cX10_count 8 = .ok (.iload_n 3, 1) := by decide +kernel
theorem dX10_count_9 : decode cX10_count 9 = .ok (.if_icmp .ge 28, 3) := by decide +kernel
theorem dX10_count_12 : decode cX10_count 12 = .ok (.iload 4, 2) := by decide +kernel
theorem dX10_count_14 : decode cX10_count 14 = .ok (.aload_n 1, 1) := by decide +kernel
theorem dX10_count_15 : decode cX10_count 15 = .ok (.iload_n 2, 1) := by decide +kernel
theorem dX10_count_16 : decode cX10_count 16 = .ok (.iload 5, 2) := by decide +kernel
theorem dX10_count_18 : decode cX10_count 18 = .ok (.iadd, 1) := by decide +kernel
theorem dX10_count_19 : decode cX10_count 19 = .ok (.baload, 1) := by decide +kernel
theorem dX10_count_20 : decode cX10_count 20 = .ok (.ifCond .eq 7, 3) := by decide +kernel
theorem dX10_count_23 : decode cX10_count 23 = .ok (.iconst 1, 1) := by decide +kernel
theorem dX10_count_24 : decode cX10_count 24 = .ok (.goto 4, 3) := by decide +kernel
theorem dX10_count_27 : decode cX10_count 27 = .ok (.iconst 0, 1) := by decide +kernel
theorem dX10_count_28 : decode cX10_count 28 = .ok (.iadd, 1) := by decide +kernel
theorem dX10_count_29 : decode cX10_count 29 = .ok (.istore 4, 2) := by decide +kernel
theorem dX10_count_31 : decode cX10_count 31 = .ok (.iinc 5 1, 3) := by decide +kernel
theorem dX10_count_34 : decode cX10_count 34 = .ok (.goto (-28), 3) := by decide +kernel
theorem dX10_count_37 : decode cX10_count 37 = .ok (.iload 4, 2) := by decide +kernel
theorem dX10_count_39 : decode cX10_count 39 = .ok (.ireturn, 1) := by decide +kernel
theorem dX10_comingTo_0 : decode cX10_comingTo 0 = .ok (.iconst 0, 1) := by decide +kernel
theorem dX10_comingTo_1 : decode cX10_comingTo 1 = .ok (.istore_n 2, 1) := by decide +kernel
theorem dX10_comingTo_2 : decode cX10_comingTo 2 = .ok (.iconst 0, 1) := by decide +kernel
theorem dX10_comingTo_3 : decode cX10_comingTo 3 = .ok (.istore_n 3, 1) := by decide +kernel
theorem dX10_comingTo_4 : decode cX10_comingTo 4 = .ok (.iload_n 3, 1) := by decide +kernel
theorem dX10_comingTo_5 : decode cX10_comingTo 5 = .ok (.aload_n 0, 1) := by decide +kernel
theorem dX10_comingTo_6 : decode cX10_comingTo 6 = .ok (.getfield 170, 3) := by decide +kernel
theorem dX10_comingTo_9 : decode cX10_comingTo 9 = .ok (.if_icmp .ge 27, 3) := by decide +kernel
theorem dX10_comingTo_12 : decode cX10_comingTo 12 = .ok (.iload_n 2, 1) := by decide +kernel
theorem dX10_comingTo_13 : decode cX10_comingTo 13 = .ok (.aload_n 0, 1) := by decide +kernel
theorem dX10_comingTo_14 : decode cX10_comingTo 14 = .ok (.getfield 90, 3) := by decide +kernel
theorem dX10_comingTo_17 : decode cX10_comingTo 17 = .ok (.iload_n 3, 1) := by decide +kernel
theorem dX10_comingTo_18 : decode cX10_comingTo 18 = .ok (.iaload, 1) := by decide +kernel
theorem dX10_comingTo_19 : decode cX10_comingTo 19 = .ok (.iload_n 1, 1) := by decide +kernel
theorem dX10_comingTo_20 : decode cX10_comingTo 20 = .ok (.if_icmp .ne 7, 3) := by decide +kernel
theorem dX10_comingTo_23 : decode cX10_comingTo 23 = .ok (.iconst 1, 1) := by decide +kernel
theorem dX10_comingTo_24 : decode cX10_comingTo 24 = .ok (.goto 4, 3) := by decide +kernel
theorem dX10_comingTo_27 : decode cX10_comingTo 27 = .ok (.iconst 0, 1) := by decide +kernel
theorem dX10_comingTo_28 : decode cX10_comingTo 28 = .ok (.iadd, 1) := by decide +kernel
theorem dX10_comingTo_29 : decode cX10_comingTo 29 = .ok (.istore_n 2, 1) := by decide +kernel
theorem dX10_comingTo_30 : decode cX10_comingTo 30 = .ok (.iinc 3 1, 3) := by decide +kernel
theorem dX10_comingTo_33 : decode cX10_comingTo 33 = .ok (.goto (-29), 3) := by decide +kernel
theorem dX10_comingTo_36 : decode cX10_comingTo 36 = .ok (.iload_n 2, 1) := by decide +kernel
theorem dX10_comingTo_37 : decode cX10_comingTo 37 = .ok (.ireturn, 1) := by decide +kernel
set_option maxRecDepth 20000 in
theorem ggX10_openTo_X10_isOpenTo : GoodIn wsX10_openTo wsX10_isOpenTo := goodIn_r _ [6, 7, 8, 9, 5, 10, 11, 12, 13, 14, 15, 16, 17, 18, 19, 20, 21, 22, 23, 24, 25, 26, 27, 28, 29, 30, 31, 32, 33, 34, 35, 36, 37, 38, 39, 40, 41, 42, 43, 44, 45, 46, 47, 48, 49, 50, 51, 52, 53, 54, 55, 56, 57, 58, 59, 60, 61, 62] (by decide +kernel) (by decide +kernel)
set_option maxRecDepth 20000 in
theorem gX10_openTo_X10_isOpenTo : GoodIn wsX10_openTo (wsV RX10 264 RX10 yX10_isOpenTo wsX10_isOpenTo) := goodIn_app (goodIn_of _ (by decide +kernel)) ggX10_openTo_X10_isOpenTo
theorem dX10_openTo_0 : decode cX10_openTo 0 = .ok (.iconst 0, 1) := by decide +kernel
theorem dX10_openTo_1 : decode cX10_openTo 1 = .ok (.istore_n 2, 1) := by decide +kernel
theorem dX10_openTo_2 : decode cX10_openTo 2 = .ok (.iconst 0, 1) := by decide +kernel
theorem dX10_openTo_3 : decode cX10_openTo 3 = .ok (.istore_n 3, 1) := by decide +kernel
theorem dX10_openTo_4 : decode cX10_openTo 4 = .ok (.iload_n 3, 1) := by decide +kernel
theorem dX10_openTo_5 : decode cX10_openTo 5 = .ok (.aload_n 0, 1) := by decide +kernel
theorem dX10_openTo_6 : decode cX10_openTo 6 = .ok (.getfield 136, 3) := by decide +kernel
theorem dX10_openTo_9 : decode cX10_openTo 9 = .ok (.if_icmp .ge 26, 3) := by decide +kernel
theorem dX10_openTo_12 : decode cX10_openTo 12 = .ok (.iload_n 2, 1) := by decide +kernel
theorem dX10_openTo_13 : decode cX10_openTo 13 = .ok (.aload_n 0, 1) := by decide +kernel
theorem dX10_openTo_14 : decode cX10_openTo 14 = .ok (.iload_n 1, 1) := by decide +kernel
theorem dX10_openTo_15 : decode cX10_openTo 15 = .ok (.iload_n 3, 1) := by decide +kernel
theorem dX10_openTo_16 : decode cX10_openTo 16 = .ok (.invokevirtual 264, 3) := by decide +kernel
theorem dX10_openTo_19 : decode cX10_openTo 19 = .ok (.ifCond .eq 7, 3) := by decide +kernel
theorem dX10_openTo_22 : decode cX10_openTo 22 = .ok (.iconst 1, 1) := by decide +kernel
theorem dX10_openTo_23 : decode cX10_openTo 23 = .ok (.goto 4, 3) := by decide +kernel
theorem dX10_openTo_26 : decode cX10_openTo 26 = .ok (.iconst 0, 1) := by decide +kernel
