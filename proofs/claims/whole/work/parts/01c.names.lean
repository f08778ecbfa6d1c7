theorem dX1_send_102 : decode cX1_send 102 = .ok (.iload 4, 2) := by decide +kernel
theorem dX1_send_104 : decode cX1_send 104 = .ok (.invokevirtual 172, 3) := by decide +kernel
theorem dX1_send_107 : decode cX1_send 107 = .ok (.aload_n 0, 1) := by decide +kernel
theorem dX1_send_108 : decode cX1_send 108 = .ok (.getfield 9, 3) := by decide +kernel
theorem dX1_send_111 : decode cX1_send 111 = .ok (.dup, 1) := by decide +kernel
theorem dX1_send_112 : decode cX1_send 112 = .ok (.getfield 176, 3) := by decide +kernel
theorem dX1_send_115 : decode cX1_send 115 = .ok (.iconst 1, 1) := by decide +kernel
theorem dX1_send_116 : decode cX1_send 116 = .ok (.iadd, 1) := by decide +kernel
theorem dX1_send_117 : decode cX1_send 117 = .ok (.putfield 176, 3) := by decide +kernel
theorem dX1_send_120 : decode cX1_send 120 = .ok (.aload_n 0, 1) := by decide +kernel
theorem dX1_send_121 : decode cX1_send 121 = .ok (.getfield 9, 3) := by decide +kernel
theorem dX1_send_124 : decode cX1_send 124 = .ok (.getfield 54, 3) := by decide +kernel
theorem dX1_send_127 : decode cX1_send 127 = .ok (.iload_n 3, 1) := by decide +kernel
theorem dX1_send_128 : decode cX1_send 128 = .ok (.iload 4, 2) := by decide +kernel
theorem dX1_send_130 : decode cX1_send 130 = .ok (.invokevirtual 179, 3) := by decide +kernel
theorem dX1_send_133 : decode cX1_send 133 = .ok (.istore 7, 2) := by decide +kernel
theorem dX1_send_135 : decode cX1_send 135 = .ok (.aload_n 0, 1) := by decide +kernel
theorem dX1_send_136 : decode cX1_send 136 = .ok (.getfield 9, 3) := by decide +kernel
theorem dX1_send_139 : decode cX1_send 139 = .ok (.getfield 182, 3) := by decide +kernel
theorem dX1_send_142 : decode cX1_send 142 = .ok (.aload 5, 2) := by decide +kernel
theorem dX1_send_144 : decode cX1_send 144 = .ok (.getfield 185, 3) := by decide +kernel
theorem dX1_send_147 : decode cX1_send 147 = .ok (.iconst 4, 1) := by decide +kernel
theorem dX1_send_148 : decode cX1_send 148 = .ok (.if_icmp .ne 7, 3) := by decide +kernel
theorem dX1_send_151 : decode cX1_send 151 = .ok (.iconst 2, 1) := by decide +kernel
theorem dX1_send_152 : decode cX1_send 152 = .ok (.goto 4, 3) := by decide +kernel
theorem dX1_send_155 : decode cX1_send 155 = .ok (.iconst 0, 1) := by decide +kernel
theorem dX1_send_156 : decode cX1_send 156 = .ok (.iadd, 1) := by decide +kernel
theorem dX1_send_157 : decode cX1_send 157 = .ok (.istore 8, 2) := by decide +kernel
theorem dX1_send_159 : decode cX1_send 159 = .ok (.aload_n 0, 1) := by decide +kernel
theorem dX1_send_160 : decode cX1_send 160 = .ok (.getfield 9, 3) := by decide +kernel
theorem dX1_send_163 : decode cX1_send 163 = .ok (.getfield 90, 3) := by decide +kernel
theorem dX1_send_166 : decode cX1_send 166 = .ok (.iload_n 1, 1) := by decide +kernel
theorem dX1_send_167 : decode cX1_send 167 = .ok (.iload_n 2, 1) := by decide +kernel
theorem dX1_send_168 : decode cX1_send 168 = .ok (.iload_n 3, 1) := by decide +kernel
theorem dX1_send_169 : decode cX1_send 169 = .ok (.iload 4, 2) := by decide +kernel
theorem dX1_send_171 : decode cX1_send 171 = .ok (.aload 5, 2) := by decide +kernel
theorem dX1_send_173 : decode cX1_send 173 = .ok (.invokevirtual 188, 3) := by decide +kernel
theorem dX1_send_176 : decode cX1_send 176 = .ok (.ifCond .eq 10, 3) := by decide +kernel
theorem dX1_send_179 : decode cX1_send 179 = .ok (.iload 7, 2) := by decide +kernel
theorem dX1_send_181 : decode cX1_send 181 = .ok (.iconst 1, 1) := by decide +kernel
theorem dX1_send_182 : decode cX1_send 182 = .ok (.ixor, 1) := by decide +kernel
theorem dX1_send_183 : decode cX1_send 183 = .ok (.goto 5, 3) := by decide +kernel
theorem dX1_send_186 : decode cX1_send 186 = .ok (.iload 7, 2) := by decide +kernel
theorem dX1_send_188 : decode cX1_send 188 = .ok (.iload 8, 2) := by decide +kernel
theorem dX1_send_190 : decode cX1_send 190 = .ok (.invokevirtual 191, 3) := by decide +kernel
theorem dX1_send_193 : decode cX1_send 193 = .ok (.iconst 1, 1) := by decide +kernel
theorem dX1_send_194 : decode cX1_send 194 = .ok (.ireturn, 1) := by decide +kernel
set_option maxRecDepth 20000 in
theorem ggX2_init_X8_init : GoodIn wsX2_init wsX8_init := goodIn_r _ [18, 19, 2, 3, 20, 21, 22, 65, 66, 67] (by decide +kernel) (by decide +kernel)
set_option maxRecDepth 20000 in
theorem gX2_init_X8_init : GoodIn wsX2_init (wsX8_init) := ggX2_init_X8_init
set_option maxRecDepth 20000 in
theorem ggX2_init_X5_init : GoodIn wsX2_init wsX5_init := goodIn_r _ [25, 26, 2, 3, 27, 28, 29, 30, 31, 32, 33, 76, 77, 78, 79, 80, 81, 82] (by decide +kernel) (by decide +kernel)
set_option maxRecDepth 20000 in
theorem gX2_init_X5_init : GoodIn wsX2_init (wsX5_init) := ggX2_init_X5_init
set_option maxRecDepth 20000 in
theorem ggX2_init_X3_init : GoodIn wsX2_init wsX3_init := goodIn_r _ [36, 37, 2, 3, 38, 39, 40, 41, 42, 43, 44, 45, 46, 47, 48, 49, 50, 51, 27, 52, 53, 54, 55, 56, 57, 58, 59, 60, 61, 62, 63, 64, 96, 97, 98, 99, 100, 101, 83, 84, 85, 86, 87, 88, 89, 90, 91, 92, 93, 94, 95, 102, 103, 104, 105, 106, 107, 108, 109, 110, 111] (by decide +kernel) (by decide +kernel)
set_option maxRecDepth 20000 in
theorem gX2_init_X3_init : GoodIn wsX2_init (wsX3_init) := ggX2_init_X3_init
theorem dX2_init_0 : decode cX2_init 0 = .ok (.aload_n 0, 1) := by decide +kernel
theorem dX2_init_1 : decode cX2_init 1 = .ok (.invokespecial 3, 3) := by decide +kernel
theorem dX2_init_4 : decode cX2_init 4 = .ok (.aload_n 0, 1) := by decide +kernel
theorem dX2_init_5 : decode cX2_init 5 = .ok (.new 9, 3) := by decide +kernel
theorem dX2_init_8 : decode cX2_init 8 = .ok (.dup, 1) := by decide +kernel
theorem dX2_init_9 : decode cX2_init 9 = .ok (.invokespecial 11, 3) := by decide +kernel
theorem dX2_init_12 : decode cX2_init 12 = .ok (.putfield 12, 3) := by decide +kernel
theorem dX2_init_15 : decode cX2_init 15 = .ok (.aload_n 0, 1) := by decide +kernel
theorem dX2_init_16 : decode cX2_init 16 = .ok (.new 18, 3) := by decide +kernel
theorem dX2_init_19 : decode cX2_init 19 = .ok (.dup, 1) := by decide +kernel
theorem dX2_init_20 : decode cX2_init 20 = .ok (.invokespecial 20, 3) := by decide +kernel
theorem dX2_init_23 : decode cX2_init 23 = .ok (.putfield 21, 3) := by decide +kernel
theorem dX2_init_26 : decode cX2_init 26 = .ok (.aload_n 0, 1) := by decide +kernel
theorem dX2_init_27 : decode cX2_init 27 = .ok (.bipush 12, 2) := by decide +kernel
theorem dX2_init_29 : decode cX2_init 29 = .ok (.anewarray 25, 3) := by decide +kernel
theorem dX2_init_32 : decode cX2_init 32 = .ok (.putfield 27, 3) := by decide +kernel
theorem dX2_init_35 : decode cX2_init 35 = .ok (.iconst 0, 1) := by decide +kernel
theorem dX2_init_36 : decode cX2_init 36 = .ok (.istore_n 1, 1) := by decide +kernel
theorem dX2_init_37 : decode cX2_init 37 = .ok (.iload_n 1, 1) := by decide +kernel
theorem dX2_init_38 : decode cX2_init 38 = .ok (.bipush 12, 2) := by decide +kernel
theorem dX2_init_40 : decode cX2_init 40 = .ok (.if_icmp .ge 22, 3) := by decide +kernel
theorem dX2_init_43 : decode cX2_init 43 = .ok (.aload_n 0, 1) := by decide +kernel
theorem dX2_init_44 : decode cX2_init 44 = .ok (.getfield 27, 3) := by decide +kernel
theorem dX2_init_47 : decode cX2_init 47 = .ok (.iload_n 1, 1) := by decide +kernel
theorem dX2_init_48 : decode cX2_init 48 = .ok (.new 25, 3) := by decide +kernel
theorem dX2_init_51 : decode cX2_init 51 = .ok (.dup, 1) := by decide +kernel
theorem dX2_init_52 : decode cX2_init 52 = .ok (.invokespecial 31, 3) := by decide +kernel
theorem dX2_init_55 : decode cX2_init 55 = .ok (.aastore, 1) := by decide +kernel
theorem dX2_init_56 : decode cX2_init 56 = .ok (.iinc 1 1, 3) := by decide +kernel
theorem dX2_init_59 : decode cX2_init 59 = .ok (.goto (-22), 3) := by decide +kernel
theorem dX2_init_62 : decode cX2_init 62 = .ok (.return_, 1) := by decide +kernel
theorem dX2_isMember_0 : decode cX2_isMember 0 = .ok (.iload_n 1, 1) := by decide +kernel
theorem dX2_isMember_1 : decode cX2_isMember 1 = .ok (.ifCond .lt 15, 3) := by decide +kernel
theorem dX2_isMember_4 : decode cX2_isMember 4 = .ok (.iload_n 1, 1) := by decide +kernel
theorem dX2_isMember_5 : decode cX2_isMember 5 = .ok (.aload_n 0, 1) := by decide +kernel
theorem dX2_isMember_6 : decode cX2_isMember 6 = .ok (.getfield 32, 3) := by decide +kernel
theorem dX2_isMember_9 : decode cX2_isMember 9 = .ok (.if_icmp .ge 7, 3) := by decide +kernel
theorem dX2_isMember_12 : decode cX2_isMember 12 = .ok (.iconst 1, 1) := by decide +kernel
theorem dX2_isMember_13 : decode cX2_isMember 13 = .ok (.goto 4, 3) := by decide +kernel
theorem dX2_isMember_16 : decode cX2_isMember 16 = .ok (.iconst 0, 1) := by decide +kernel
theorem dX2_isMember_17 : decode cX2_isMember 17 = .ok (.ireturn, 1) := by decide +kernel
set_option maxRecDepth 20000 in
theorem ggX2_areTwo_X2_isMember : GoodIn wsX2_areTwo wsX2_isMember := goodIn_r _ [5, 6, 7, 8, 9, 10, 11, 12, 13, 14] (by decide +kernel) (by decide +kernel)
set_option maxRecDepth 20000 in
theorem gX2_areTwo_X2_isMember : GoodIn wsX2_areTwo (wsV RX2 36 RX2 yX2_isMember wsX2_isMember) := goodIn_app (goodIn_of _ (by decide +kernel)) ggX2_areTwo_X2_isMember
theorem dX2_areTwo_0 : decode cX2_areTwo 0 = .ok (.aload_n 0, 1) := by decide +kernel
theorem dX2_areTwo_1 : decode cX2_areTwo 1 = .ok (.iload_n 1, 1) := by decide +kernel
theorem dX2_areTwo_2 : decode cX2_areTwo 2 = .ok (.invokevirtual 36, 3) := by decide +kernel
theorem dX2_areTwo_5 : decode cX2_areTwo 5 = .ok (.ifCond .eq 20, 3) := by decide +kernel
theorem dX2_areTwo_8 : decode cX2_areTwo 8 = .ok (.aload_n 0, 1) := by decide +kernel
theorem dX2_areTwo_9 : decode cX2_areTwo 9 = .ok (.iload_n 2, 1) := by decide +kernel
theorem dX2_areTwo_10 : decode cX2_areTwo 10 = .ok (.invokevirtual 36, 3) := by decide +kernel
theorem dX2_areTwo_13 : decode cX2_areTwo 13 = .ok (.ifCond .eq 12, 3) := by decide +kernel
theorem dX2_areTwo_16 : decode cX2_areTwo 16 = .ok (.iload_n 1, 1) := by decide +kernel
theorem dX2_areTwo_17 : decode cX2_areTwo 17 = .ok (.iload_n 2, 1) := by decide +kernel
theorem dX2_areTwo_18 : decode cX2_areTwo 18 = .ok (.if_icmp .eq 7, 3) := by decide +kernel
theorem dX2_areTwo_21 : decode cX2_areTwo 21 = .ok (.iconst 1, 1) := by decide +kernel
theorem dX2_areTwo_22 : decode cX2_areTwo 22 = .ok (.goto 4, 3) := by decide +kernel
theorem dX2_areTwo_25 : decode cX2_areTwo 25 = .ok (.iconst 0, 1) := by decide +kernel
theorem dX2_areTwo_26 : decode cX2_areTwo 26 = .ok (.ireturn, 1) := by decide +kernel
set_option maxRecDepth 20000 in
theorem ggX2_takeIn_X6_fillFrom : GoodIn wsX2_takeIn wsX6_fillFrom := goodIn_r _ [14, 15, 16, 17, 18, 19, 20, 21, 22, 23, 24, 25, 26, 27, 28, 29, 30, 31, 32, 33, 55, 56, 57, 58, 59, 60, 61, 62, 63] (by decide +kernel) (by decide +kernel)
set_option maxRecDepth 20000 in
theorem gX2_takeIn_X6_fillFrom : GoodIn wsX2_takeIn (wsV RX2 53 RX6 yX6_fillFrom wsX6_fillFrom) := goodIn_app (goodIn_of _ (by decide +kernel)) ggX2_takeIn_X6_fillFrom
theorem dX2_takeIn_0 : decode cX2_takeIn 0 = .ok (.aload_n 0, 1) := by decide +kernel
theorem dX2_takeIn_1 : decode cX2_takeIn 1 = .ok (.getfield 32, 3) := by decide +kernel
theorem dX2_takeIn_4 : decode cX2_takeIn 4 = .ok (.istore 4, 2) := by decide +kernel
theorem dX2_takeIn_6 : decode cX2_takeIn 6 = .ok (.aload_n 0, 1) := by decide +kernel
theorem dX2_takeIn_7 : decode cX2_takeIn 7 = .ok (.getfield 27, 3) := by decide +kernel
theorem dX2_takeIn_10 : decode cX2_takeIn 10 = .ok (.iload 4, 2) := by decide +kernel
theorem dX2_takeIn_12 : decode cX2_takeIn 12 = .ok (.aaload, 1) := by decide +kernel
theorem dX2_takeIn_13 : decode cX2_takeIn 13 = .ok (.astore 5, 2) := by decide +kernel
theorem dX2_takeIn_15 : decode cX2_takeIn 15 = .ok (.aload 5, 2) := by decide +kernel
theorem dX2_takeIn_17 : decode cX2_takeIn 17 = .ok (.iload_n 1, 1) := by decide +kernel
theorem dX2_takeIn_18 : decode cX2_takeIn 18 = .ok (.putfield 40, 3) := by decide +kernel
theorem dX2_takeIn_21 : decode cX2_takeIn 21 = .ok (.aload 5, 2) := by decide +kernel
theorem dX2_takeIn_23 : decode cX2_takeIn 23 = .ok (.iload_n 2, 1) := by decide +kernel
theorem dX2_takeIn_24 : decode cX2_takeIn 24 = .ok (.putfield 43, 3) := by decide +kernel
theorem dX2_takeIn_27 : decode cX2_takeIn 27 = .ok (.aload 5, 2) := by decide +kernel
theorem dX2_takeIn_29 : decode cX2_takeIn 29 = .ok (.iload_n 3, 1) := by decide +kernel
theorem dX2_takeIn_30 : decode cX2_takeIn 30 = .ok (.putfield 46, 3) := by decide +kernel
theorem dX2_takeIn_33 : decode cX2_takeIn 33 = .ok (.iload_n 1, 1) := by decide +kernel
theorem dX2_takeIn_34 : decode cX2_takeIn 34 = .ok (.iconst 1, 1) := by decide +kernel
theorem dX2_takeIn_35 : decode cX2_takeIn 35 = .ok (.if_icmp .ne 21, 3) := by decide +kernel
theorem dX2_takeIn_38 : decode cX2_takeIn 38 = .ok (.aload 5, 2) := by decide +kernel
theorem dX2_takeIn_40 : decode cX2_takeIn 40 = .ok (.getfield 49, 3) := by decide +kernel
theorem dX2_takeIn_43 : decode cX2_takeIn 43 = .ok (.aload_n 0, 1) := by decide +kernel
theorem dX2_takeIn_44 : decode cX2_takeIn 44 = .ok (.getfield 12, 3) := by decide +kernel
theorem dX2_takeIn_47 : decode cX2_takeIn 47 = .ok (.invokevirtual 53, 3) := by decide +kernel
theorem dX2_takeIn_50 : decode cX2_takeIn 50 = .ok (.aload 5, 2) := by decide +kernel
theorem dX2_takeIn_52 : decode cX2_takeIn 52 = .ok (.iconst 0, 1) := by decide +kernel
theorem dX2_takeIn_53 : decode cX2_takeIn 53 = .ok (.putfield 59, 3) := by decide +kernel
theorem dX2_takeIn_56 : decode cX2_takeIn 56 = .ok (.aload_n 0, 1) := by decide +kernel
theorem dX2_takeIn_57 : decode cX2_takeIn 57 = .ok (.dup, 1) := by decide +kernel
theorem dX2_takeIn_58 : decode cX2_takeIn 58 = .ok (.getfield 62, 3) := by decide +kernel
theorem dX2_takeIn_61 : decode cX2_takeIn 61 = .ok (.iconst 1, 1) := by decide +kernel
theorem dX2_takeIn_62 : decode cX2_takeIn 62 = .ok (.iload 4, 2) := by decide +kernel
theorem dX2_takeIn_64 : decode cX2_takeIn 64 = .ok (.ishl, 1) := by decide +kernel
theorem dX2_takeIn_65 : decode cX2_takeIn 65 = .ok (.ior, 1) := by decide +kernel
theorem dX2_takeIn_66 : decode cX2_takeIn 66 = .ok (.putfield 62, 3) := by decide +kernel
theorem dX2_takeIn_69 : decode cX2_takeIn 69 = .ok (.aload_n 0, 1) := by decide +kernel
theorem dX2_takeIn_70 : decode cX2_takeIn 70 = .ok (.dup, 1) := by decide +kernel
theorem dX2_takeIn_71 : decode cX2_takeIn 71 = .ok (.getfield 32, 3) := by decide +kernel
theorem dX2_takeIn_74 : decode cX2_takeIn 74 = .ok (.iconst 1, 1) := by decide +kernel
theorem dX2_takeIn_75 : decode cX2_takeIn 75 = .ok (.iadd, 1) := by decide +kernel
theorem dX2_takeIn_76 : decode cX2_takeIn 76 = .ok (.putfield 32, 3) := by decide +kernel
theorem dX2_takeIn_79 : decode cX2_takeIn 79 = .ok (.iload 4, 2) := by decide +kernel
theorem dX2_takeIn_81 : decode cX2_takeIn 81 = .ok (.ireturn, 1) := by decide +kernel
set_option maxRecDepth 20000 in
theorem ggX2_nearTo_X9_isIn : GoodIn wsX2_nearTo wsX9_isIn := goodIn_r _ [9] (by decide +kernel) (by decide +kernel)
set_option maxRecDepth 20000 in
theorem gX2_nearTo_X9_isIn_n69 : GoodIn wsX2_nearTo (wsX9_isIn) := ggX2_nearTo_X9_isIn
theorem dX2_nearTo_0 : decode cX2_nearTo 0 = .ok (.aload_n 0, 1) := by decide +kernel
theorem dX2_nearTo_1 : decode cX2_nearTo 1 = .ok (.getfield 27, 3) := by decide +kernel
theorem dX2_nearTo_4 : decode cX2_nearTo 4 = .ok (.iload_n 1, 1) := by decide +kernel
theorem dX2_nearTo_5 : decode cX2_nearTo 5 = .ok (.aaload, 1) := by decide +kernel
theorem dX2_nearTo_6 : decode cX2_nearTo 6 = .ok (.getfield 65, 3) := by decide +kernel
theorem dX2_nearTo_9 : decode cX2_nearTo 9 = .ok (.astore_n 2, 1) := by decide +kernel
theorem dX2_nearTo_10 : decode cX2_nearTo 10 = .ok (.aload_n 0, 1) := by decide +kernel
theorem dX2_nearTo_11 : decode cX2_nearTo 11 = .ok (.getfield 62, 3) := by decide +kernel
theorem dX2_nearTo_14 : decode cX2_nearTo 14 = .ok (.iload_n 1, 1) := by decide +kernel
theorem dX2_nearTo_15 : decode cX2_nearTo 15 = .ok (.invokestatic 69, 3) := by decide +kernel
theorem dX2_nearTo_18 : decode cX2_nearTo 18 = .ok (.ifCond .eq 29, 3) := by decide +kernel
theorem dX2_nearTo_21 : decode cX2_nearTo 21 = .ok (.aload_n 0, 1) := by decide +kernel
theorem dX2_nearTo_22 : decode cX2_nearTo 22 = .ok (.getfield 62, 3) := by decide +kernel
theorem dX2_nearTo_25 : decode cX2_nearTo 25 = .ok (.aload_n 2, 1) := by decide +kernel
theorem dX2_nearTo_26 : decode cX2_nearTo 26 = .ok (.getfield 73, 3) := by decide +kernel
theorem dX2_nearTo_29 : decode cX2_nearTo 29 = .ok (.iand, 1) := by decide +kernel
theorem dX2_nearTo_30 : decode cX2_nearTo 30 = .ok (.aload_n 2, 1) := by decide +kernel
theorem dX2_nearTo_31 : decode cX2_nearTo 31 = .ok (.getfield 78, 3) := by decide +kernel
theorem dX2_nearTo_34 : decode cX2_nearTo 34 = .ok (.iconst (-1), 1) := by decide +kernel
theorem dX2_nearTo_35 : decode cX2_nearTo 35 = .ok (.ixor, 1) := by decide +kernel
theorem dX2_nearTo_36 : decode cX2_nearTo 36 = .ok (.iand, 1) := by decide +kernel
theorem dX2_nearTo_37 : decode cX2_nearTo 37 = .ok (.aload_n 2, 1) := by decide +kernel
theorem dX2_nearTo_38 : decode cX2_nearTo 38 = .ok (.getfield 81, 3) := by decide +kernel
theorem dX2_nearTo_41 : decode cX2_nearTo 41 = .ok (.iconst (-1), 1) := by decide +kernel
theorem dX2_nearTo_42 : decode cX2_nearTo 42 = .ok (.ixor, 1) := by decide +kernel
theorem dX2_nearTo_43 : decode cX2_nearTo 43 = .ok (.iand, 1) := by decide +kernel
theorem dX2_nearTo_44 : decode cX2_nearTo 44 = .ok (.goto 4, 3) := by decide +kernel
theorem dX2_nearTo_47 : decode cX2_nearTo 47 = .ok (.iconst 0, 1) := by decide +kernel
theorem dX2_nearTo_48 : decode cX2_nearTo 48 = .ok (.ireturn, 1) := by decide +kernel
set_option maxRecDepth 20000 in
theorem ggX2_tellersAmong_X9_isIn : GoodIn wsX2_tellersAmong wsX9_isIn := goodIn_r _ [5] (by decide +kernel) (by decide +kernel)
set_option maxRecDepth 20000 in
theorem gX2_tellersAmong_X9_isIn_n69 : GoodIn wsX2_tellersAmong (wsX9_isIn) := ggX2_tellersAmong_X9_isIn
set_option maxRecDepth 20000 in
theorem ggX2_tellersAmong_X3_toldPieces : GoodIn wsX2_tellersAmong wsX3_toldPieces := goodIn_r _ [10, 11, 12, 13, 14, 23, 24, 25, 26, 27, 28, 29, 30, 31, 32, 33, 34, 35, 36, 37, 38, 39, 40, 41] (by decide +kernel) (by decide +kernel)
set_option maxRecDepth 20000 in
theorem gX2_tellersAmong_X3_toldPieces : GoodIn wsX2_tellersAmong (wsV RX2 84 RX3 yX3_toldPieces wsX3_toldPieces) := goodIn_app (goodIn_of _ (by decide +kernel)) ggX2_tellersAmong_X3_toldPieces
theorem dX2_tellersAmong_0 : decode cX2_tellersAmong 0 = .ok (.iconst 0, 1) := by decide +kernel
theorem dX2_tellersAmong_1 : decode cX2_tellersAmong 1 = .ok (.istore_n 3, 1) := by decide +kernel
theorem dX2_tellersAmong_2 : decode cX2_tellersAmong 2 = .ok (.iconst 0, 1) := by decide +kernel
theorem dX2_tellersAmong_3 : decode cX2_tellersAmong 3 = .ok (.istore 4, 2) := by decide +kernel
theorem dX2_tellersAmong_5 : decode cX2_tellersAmong 5 = .ok (.iload 4, 2) := by decide +kernel
theorem dX2_tellersAmong_7 : decode cX2_tellersAmong 7 = .ok (.aload_n 0, 1) := by decide +kernel
theorem dX2_tellersAmong_8 : decode cX2_tellersAmong 8 = .ok (.getfield 32, 3) := by decide +kernel
theorem dX2_tellersAmong_11 : decode cX2_tellersAmong 11 = .ok (.if_icmp .ge 42, 3) := by decide +kernel
theorem dX2_tellersAmong_14 : decode cX2_tellersAmong 14 = .ok (.iload_n 1, 1) := by decide +kernel
theorem dX2_tellersAmong_15 : decode cX2_tellersAmong 15 = .ok (.iload 4, 2) := by decide +kernel
theorem dX2_tellersAmong_17 : decode cX2_tellersAmong 17 = .ok (.invokestatic 69, 3) := by decide +kernel
theorem dX2_tellersAmong_20 : decode cX2_tellersAmong 20 = .ok (.ifCond .eq 27, 3) := by decide +kernel
theorem dX2_tellersAmong_23 : decode cX2_tellersAmong 23 = .ok (.aload_n 0, 1) := by decide +kernel
theorem dX2_tellersAmong_24 : decode cX2_tellersAmong 24 = .ok (.getfield 27, 3) := by decide +kernel
theorem dX2_tellersAmong_27 : decode cX2_tellersAmong 27 = .ok (.iload 4, 2) := by decide +kernel
theorem dX2_tellersAmong_29 : decode cX2_tellersAmong 29 = .ok (.aaload, 1) := by decide +kernel
theorem dX2_tellersAmong_30 : decode cX2_tellersAmong 30 = .ok (.invokevirtual 84, 3) := by decide +kernel
theorem dX2_tellersAmong_33 : decode cX2_tellersAmong 33 = .ok (.iload_n 2, 1) := by decide +kernel
theorem dX2_tellersAmong_34 : decode cX2_tellersAmong 34 = .ok (.invokestatic 69, 3) := by decide +kernel
theorem dX2_tellersAmong_37 : decode cX2_tellersAmong 37 = .ok (.ifCond .eq 10, 3) := by decide +kernel
theorem dX2_tellersAmong_40 : decode cX2_tellersAmong 40 = .ok (.iload_n 3, 1) := by decide +kernel
theorem dX2_tellersAmong_41 : decode cX2_tellersAmong 41 = .ok (.iconst 1, 1) := by decide +kernel
theorem dX2_tellersAmong_42 : decode cX2_tellersAmong 42 = .ok (.iload 4, 2) := by decide +kernel
theorem dX2_tellersAmong_44 : decode cX2_tellersAmong 44 = .ok (.ishl, 1) := by decide +kernel
theorem dX2_tellersAmong_45 : decode cX2_tellersAmong 45 = .ok (.ior, 1) := by decide +kernel
theorem dX2_tellersAmong_46 : decode cX2_tellersAmong 46 = .ok (.istore_n 3, 1) := by decide +kernel
theorem dX2_tellersAmong_47 : decode cX2_tellersAmong 47 = .ok (.iinc 4 1, 3) := by decide +kernel
theorem dX2_tellersAmong_50 : decode cX2_tellersAmong 50 = .ok (.goto (-45), 3) := by decide +kernel
theorem dX2_tellersAmong_53 : decode cX2_tellersAmong 53 = .ok (.iload_n 3, 1) := by decide +kernel
theorem dX2_tellersAmong_54 : decode cX2_tellersAmong 54 = .ok (.ireturn, 1) := by decide +kernel
set_option maxRecDepth 20000 in
theorem ggX2_wantersOf_X3_toldPieces : GoodIn wsX2_wantersOf wsX3_toldPieces := goodIn_r _ [9, 10, 11, 12, 13, 35, 36, 37, 38, 39, 40, 41, 42, 43, 44, 45, 46, 47, 48, 49, 50, 51, 52, 53] (by decide +kernel) (by decide +kernel)
set_option maxRecDepth 20000 in
theorem gX2_wantersOf_X3_toldPieces : GoodIn wsX2_wantersOf (wsV RX2 84 RX3 yX3_toldPieces wsX3_toldPieces) := goodIn_app (goodIn_of _ (by decide +kernel)) ggX2_wantersOf_X3_toldPieces
set_option maxRecDepth 20000 in
theorem ggX2_wantersOf_X2_nearTo : GoodIn wsX2_wantersOf wsX2_nearTo := goodIn_r _ [18, 1, 19, 20, 21, 22, 23, 24, 25, 26, 27, 28, 29, 30, 31, 32, 33, 34, 35, 36, 37, 38, 39, 40, 41, 42, 43, 44, 45, 46, 47, 54, 55, 56, 57, 58, 59, 60, 61, 62, 63] (by decide +kernel) (by decide +kernel)
set_option maxRecDepth 20000 in
theorem gX2_wantersOf_X2_nearTo : GoodIn wsX2_wantersOf (wsV RX2 88 RX2 yX2_nearTo wsX2_nearTo) := goodIn_app (goodIn_of _ (by decide +kernel)) ggX2_wantersOf_X2_nearTo
set_option maxRecDepth 20000 in
theorem ggX2_wantersOf_X9_isIn : GoodIn wsX2_wantersOf wsX9_isIn := goodIn_r _ [26] (by decide +kernel) (by decide +kernel)
set_option maxRecDepth 20000 in
theorem gX2_wantersOf_X9_isIn_n69 : GoodIn wsX2_wantersOf (wsX9_isIn) := ggX2_wantersOf_X9_isIn
theorem dX2_wantersOf_0 : decode cX2_wantersOf 0 = .ok (.aload_n 0, 1) := by decide +kernel
theorem dX2_wantersOf_1 : decode cX2_wantersOf 1 = .ok (.getfield 27, 3) := by decide +kernel
theorem dX2_wantersOf_4 : decode cX2_wantersOf 4 = .ok (.iload_n 1, 1) := by decide +kernel
theorem dX2_wantersOf_5 : decode cX2_wantersOf 5 = .ok (.aaload, 1) := by decide +kernel
theorem dX2_wantersOf_6 : decode cX2_wantersOf 6 = .ok (.invokevirtual 84, 3) := by decide +kernel
theorem dX2_wantersOf_9 : decode cX2_wantersOf 9 = .ok (.istore_n 2, 1) := by decide +kernel
theorem dX2_wantersOf_10 : decode cX2_wantersOf 10 = .ok (.aload_n 0, 1) := by decide +kernel
theorem dX2_wantersOf_11 : decode cX2_wantersOf 11 = .ok (.iload_n 1, 1) := by decide +kernel
theorem dX2_wantersOf_12 : decode cX2_wantersOf 12 = .ok (.invokevirtual 88, 3) := by decide +kernel
theorem dX2_wantersOf_15 : decode cX2_wantersOf 15 = .ok (.istore_n 3, 1) := by decide +kernel
theorem dX2_wantersOf_16 : decode cX2_wantersOf 16 = .ok (.iconst 0, 1) := by decide +kernel
theorem dX2_wantersOf_17 : decode cX2_wantersOf 17 = .ok (.istore 4, 2) := by decide +kernel
theorem dX2_wantersOf_19 : decode cX2_wantersOf 19 = .ok (.iconst 0, 1) := by decide +kernel
theorem dX2_wantersOf_20 : decode cX2_wantersOf 20 = .ok (.istore 5, 2) := by decide +kernel
theorem dX2_wantersOf_22 : decode cX2_wantersOf 22 = .ok (.iload 5, 2) := by decide +kernel
theorem dX2_wantersOf_24 : decode cX2_wantersOf 24 = .ok (.aload_n 0, 1) := by decide +kernel
theorem dX2_wantersOf_25 : decode cX2_wantersOf 25 = .ok (.getfield 32, 3) := by decide +kernel
theorem dX2_wantersOf_28 : decode cX2_wantersOf 28 = .ok (.if_icmp .ge 47, 3) := by decide +kernel
theorem dX2_wantersOf_31 : decode cX2_wantersOf 31 = .ok (.iload_n 3, 1) := by decide +kernel
theorem dX2_wantersOf_32 : decode cX2_wantersOf 32 = .ok (.iload 5, 2) := by decide +kernel
theorem dX2_wantersOf_34 : decode cX2_wantersOf 34 = .ok (.invokestatic 69, 3) := by decide +kernel
theorem dX2_wantersOf_37 : decode cX2_wantersOf 37 = .ok (.ifCond .eq 32, 3) := by decide +kernel
theorem dX2_wantersOf_40 : decode cX2_wantersOf 40 = .ok (.iload_n 2, 1) := by decide +kernel
theorem dX2_wantersOf_41 : decode cX2_wantersOf 41 = .ok (.aload_n 0, 1) := by decide +kernel
theorem dX2_wantersOf_42 : decode cX2_wantersOf 42 = .ok (.getfield 27, 3) := by decide +kernel
theorem dX2_wantersOf_45 : decode cX2_wantersOf 45 = .ok (.iload 5, 2) := by decide +kernel
theorem dX2_wantersOf_47 : decode cX2_wantersOf 47 = .ok (.aaload, 1) := by decide +kernel
theorem dX2_wantersOf_48 : decode cX2_wantersOf 48 = .ok (.getfield 49, 3) := by decide +kernel
theorem dX2_wantersOf_51 : decode cX2_wantersOf 51 = .ok (.getfield 92, 3) := by decide +kernel
theorem dX2_wantersOf_54 : decode cX2_wantersOf 54 = .ok (.iconst (-1), 1) := by decide +kernel
theorem dX2_wantersOf_55 : decode cX2_wantersOf 55 = .ok (.ixor, 1) := by decide +kernel
theorem dX2_wantersOf_56 : decode cX2_wantersOf 56 = .ok (.iand, 1) := by decide +kernel
theorem dX2_wantersOf_57 : decode cX2_wantersOf 57 = .ok (.ifCond .eq 12, 3) := by decide +kernel
theorem dX2_wantersOf_60 : decode cX2_wantersOf 60 = .ok (.iload 4, 2) := by decide +kernel
theorem dX2_wantersOf_62 : decode cX2_wantersOf 62 = .ok (.iconst 1, 1) := by decide +kernel
theorem dX2_wantersOf_63 : decode cX2_wantersOf 63 = .ok (.iload 5, 2) := by decide +kernel
theorem dX2_wantersOf_65 : decode cX2_wantersOf 65 = .ok (.ishl, 1) := by decide +kernel
theorem dX2_wantersOf_66 : decode cX2_wantersOf 66 = .ok (.ior, 1) := by decide +kernel
theorem dX2_wantersOf_67 : decode cX2_wantersOf 67 = .ok (.istore 4, 2) := by decide +kernel
theorem dX2_wantersOf_69 : decode cX2_wantersOf 69 = .ok (.iinc 5 1, 3) := by decide +kernel
theorem dX2_wantersOf_72 : decode cX2_wantersOf 72 = .ok (.goto (-50), 3) := by decide +kernel
theorem dX2_wantersOf_75 : decode cX2_wantersOf 75 = .ok (.iload 4, 2) := by decide +kernel
theorem dX2_wantersOf_77 : decode cX2_wantersOf 77 = .ok (.ireturn, 1) := by decide +kernel
set_option maxRecDepth 20000 in
theorem ggX2_hadByOthersThan_X9_isIn : GoodIn wsX2_hadByOthersThan wsX9_isIn := goodIn_r _ [8] (by decide +kernel) (by decide +kernel)
set_option maxRecDepth 20000 in
theorem gX2_hadByOthersThan_X9_isIn_n69 : GoodIn wsX2_hadByOthersThan (wsX9_isIn) := ggX2_hadByOthersThan_X9_isIn
theorem dX2_hadByOthersThan_0 : decode cX2_hadByOthersThan 0 = .ok (.iconst 0, 1) := by decide +kernel
theorem dX2_hadByOthersThan_1 : decode cX2_hadByOthersThan 1 = .ok (.istore_n 2, 1) := by decide +kernel
theorem dX2_hadByOthersThan_2 : decode cX2_hadByOthersThan 2 = .ok (.iconst 0, 1) := by decide +kernel
theorem dX2_hadByOthersThan_3 : decode cX2_hadByOthersThan 3 = .ok (.istore_n 3, 1) := by decide +kernel
theorem dX2_hadByOthersThan_4 : decode cX2_hadByOthersThan 4 = .ok (.iload_n 3, 1) := by decide +kernel
theorem dX2_hadByOthersThan_5 : decode cX2_hadByOthersThan 5 = .ok (.aload_n 0, 1) := by decide +kernel
theorem dX2_hadByOthersThan_6 : decode cX2_hadByOthersThan 6 = .ok (.getfield 32, 3) := by decide +kernel
theorem dX2_hadByOthersThan_9 : decode cX2_hadByOthersThan 9 = .ok (.if_icmp .ge 40, 3) := by decide +kernel
theorem dX2_hadByOthersThan_12 : decode cX2_hadByOthersThan 12 = .ok (.iload_n 3, 1) := by decide +kernel
theorem dX2_hadByOthersThan_13 : decode cX2_hadByOthersThan 13 = .ok (.iload_n 1, 1) := by decide +kernel
theorem dX2_hadByOthersThan_14 : decode cX2_hadByOthersThan 14 = .ok (.if_icmp .eq 29, 3) := by decide +kernel
theorem dX2_hadByOthersThan_17 : decode cX2_hadByOthersThan 17 = .ok (.aload_n 0, 1) := by decide +kernel
theorem dX2_hadByOthersThan_18 : decode cX2_hadByOthersThan 18 = .ok (.getfield 62, 3) := by decide +kernel
theorem dX2_hadByOthersThan_21 : decode cX2_hadByOthersThan 21 = .ok (.iload_n 3, 1) := by decide +kernel
theorem dX2_hadByOthersThan_22 : decode cX2_hadByOthersThan 22 = .ok (.invokestatic 69, 3) := by decide +kernel
theorem dX2_hadByOthersThan_25 : decode cX2_hadByOthersThan 25 = .ok (.ifCond .eq 18, 3) := by decide +kernel
theorem dX2_hadByOthersThan_28 : decode cX2_hadByOthersThan 28 = .ok (.iload_n 2, 1) := by decide +kernel
theorem dX2_hadByOthersThan_29 : decode cX2_hadByOthersThan 29 = .ok (.aload_n 0, 1) := by decide +kernel
theorem dX2_hadByOthersThan_30 : decode cX2_hadByOthersThan 30 = .ok (.getfield 27, 3) := by decide +kernel
theorem dX2_hadByOthersThan_33 : decode cX2_hadByOthersThan 33 = .ok (.iload_n 3, 1) := by decide +kernel
theorem dX2_hadByOthersThan_34 : decode cX2_hadByOthersThan 34 = .ok (.aaload, 1) := by decide +kernel
theorem dX2_hadByOthersThan_35 : decode cX2_hadByOthersThan 35 = .ok (.getfield 49, 3) := by decide +kernel
theorem dX2_hadByOthersThan_38 : decode cX2_hadByOthersThan 38 = .ok (.getfield 92, 3) := by decide +kernel
theorem dX2_hadByOthersThan_41 : decode cX2_hadByOthersThan 41 = .ok (.ior, 1) := by decide +kernel
theorem dX2_hadByOthersThan_42 : decode cX2_hadByOthersThan 42 = .ok (.istore_n 2, 1) := by decide +kernel
theorem dX2_hadByOthersThan_43 : decode cX2_hadByOthersThan 43 = .ok (.iinc 3 1, 3) := by decide +kernel
theorem dX2_hadByOthersThan_46 : decode cX2_hadByOthersThan 46 = .ok (.goto (-42), 3) := by decide +kernel
theorem dX2_hadByOthersThan_49 : decode cX2_hadByOthersThan 49 = .ok (.iload_n 2, 1) := by decide +kernel
theorem dX2_hadByOthersThan_50 : decode cX2_hadByOthersThan 50 = .ok (.ireturn, 1) := by decide +kernel
set_option maxRecDepth 20000 in
theorem ggX2_letGo_X2_loseParcelsOf : GoodIn wsX2_letGo wsX2_loseParcelsOf := goodIn_r _ [10, 11, 12, 13, 14, 2, 15, 16, 17, 18, 19, 20, 21, 22, 23, 24, 25, 26, 27, 28, 29, 30, 31, 32, 33, 34, 35, 36, 37, 38, 39, 40, 41, 42, 43, 44, 45, 46, 47, 71, 72, 73, 74, 75, 76, 77, 48, 49, 50, 51, 52, 53, 54, 55, 56, 57, 58, 59, 60, 78, 79, 80, 81, 82, 83] (by decide +kernel) (by decide +kernel)
set_option maxRecDepth 20000 in
theorem gX2_letGo_X2_loseParcelsOf : GoodIn wsX2_letGo (wsV RX2 98 RX2 yX2_loseParcelsOf wsX2_loseParcelsOf) := goodIn_app (goodIn_of _ (by decide +kernel)) ggX2_letGo_X2_loseParcelsOf
theorem dX2_letGo_0 : decode cX2_letGo 0 = .ok (.aload_n 0, 1) := by decide +kernel
theorem dX2_letGo_1 : decode cX2_letGo 1 = .ok (.dup, 1) := by decide +kernel
theorem dX2_letGo_2 : decode cX2_letGo 2 = .ok (.getfield 62, 3) := by decide +kernel
theorem dX2_letGo_5 : decode cX2_letGo 5 = .ok (.iconst 1, 1) := by decide +kernel
theorem dX2_letGo_6 : decode cX2_letGo 6 = .ok (.iload_n 1, 1) := by decide +kernel
theorem dX2_letGo_7 : decode cX2_letGo 7 = .ok (.ishl, 1) := by decide +kernel
theorem dX2_letGo_8 : decode cX2_letGo 8 = .ok (.iconst (-1), 1) := by decide +kernel
theorem dX2_letGo_9 : decode cX2_letGo 9 = .ok (.ixor, 1) := by decide +kernel
theorem dX2_letGo_10 : decode cX2_letGo 10 = .ok (.iand, 1) := by decide +kernel
theorem dX2_letGo_11 : decode cX2_letGo 11 = .ok (.putfield 62, 3) := by decide +kernel
theorem dX2_letGo_14 : decode cX2_letGo 14 = .ok (.aload_n 0, 1) := by decide +kernel
theorem dX2_letGo_15 : decode cX2_letGo 15 = .ok (.getfield 27, 3) := by decide +kernel
theorem dX2_letGo_18 : decode cX2_letGo 18 = .ok (.iload_n 1, 1) := by decide +kernel
theorem dX2_letGo_19 : decode cX2_letGo 19 = .ok (.aaload, 1) := by decide +kernel
theorem dX2_letGo_20 : decode cX2_letGo 20 = .ok (.getfield 65, 3) := by decide +kernel
theorem dX2_letGo_23 : decode cX2_letGo 23 = .ok (.iconst 0, 1) := by decide +kernel
theorem dX2_letGo_24 : decode cX2_letGo 24 = .ok (.putfield 95, 3) := by decide +kernel
theorem dX2_letGo_27 : decode cX2_letGo 27 = .ok (.iconst 0, 1) := by decide +kernel
theorem dX2_letGo_28 : decode cX2_letGo 28 = .ok (.istore_n 2, 1) := by decide +kernel
theorem dX2_letGo_29 : decode cX2_letGo 29 = .ok (.iload_n 2, 1) := by decide +kernel
theorem dX2_letGo_30 : decode cX2_letGo 30 = .ok (.aload_n 0, 1) := by decide +kernel
theorem dX2_letGo_31 : decode cX2_letGo 31 = .ok (.getfield 32, 3) := by decide +kernel
theorem dX2_letGo_34 : decode cX2_letGo 34 = .ok (.if_icmp .ge 31, 3) := by decide +kernel
theorem dX2_letGo_37 : decode cX2_letGo 37 = .ok (.aload_n 0, 1) := by decide +kernel
theorem dX2_letGo_38 : decode cX2_letGo 38 = .ok (.getfield 27, 3) := by decide +kernel
theorem dX2_letGo_41 : decode cX2_letGo 41 = .ok (.iload_n 2, 1) := by decide +kernel
theorem dX2_letGo_42 : decode cX2_letGo 42 = .ok (.aaload, 1) := by decide +kernel
theorem dX2_letGo_43 : decode cX2_letGo 43 = .ok (.getfield 65, 3) := by decide +kernel
theorem dX2_letGo_46 : decode cX2_letGo 46 = .ok (.dup, 1) := by decide +kernel
theorem dX2_letGo_47 : decode cX2_letGo 47 = .ok (.getfield 95, 3) := by decide +kernel
theorem dX2_letGo_50 : decode cX2_letGo 50 = .ok (.iconst 1, 1) := by decide +kernel
theorem dX2_letGo_51 : decode cX2_letGo 51 = .ok (.iload_n 1, 1) := by decide +kernel
theorem dX2_letGo_52 : decode cX2_letGo 52 = .ok (.ishl, 1) := by decide +kernel
theorem dX2_letGo_53 : decode cX2_letGo 53 = .ok (.iconst (-1), 1) := by decide +kernel
theorem dX2_letGo_54 : decode cX2_letGo 54 = .ok (.ixor, 1) := by decide +kernel
theorem dX2_letGo_55 : decode cX2_letGo 55 = .ok (.iand, 1) := by decide +kernel
theorem dX2_letGo_56 : decode cX2_letGo 56 = .ok (.putfield 95, 3) := by decide +kernel
theorem dX2_letGo_59 : decode cX2_letGo 59 = .ok (.iinc 2 1, 3) := by decide +kernel
theorem dX2_letGo_62 : decode cX2_letGo 62 = .ok (.goto (-33), 3) := by decide +kernel
theorem dX2_letGo_65 : decode cX2_letGo 65 = .ok (.aload_n 0, 1) := by decide +kernel
theorem dX2_letGo_66 : decode cX2_letGo 66 = .ok (.iload_n 1, 1) := by decide +kernel
theorem dX2_letGo_67 : decode cX2_letGo 67 = .ok (.invokevirtual 98, 3) := by decide +kernel
theorem dX2_letGo_70 : decode cX2_letGo 70 = .ok (.return_, 1) := by decide +kernel
set_option maxRecDepth 20000 in
theorem ggX2_loseParcelsOf_X6_expectNoMore : GoodIn wsX2_loseParcelsOf wsX6_expectNoMore := goodIn_r _ [14, 15, 16, 17, 18, 19, 59, 60, 61, 62, 63, 64] (by decide +kernel) (by decide +kernel)
set_option maxRecDepth 20000 in
theorem gX2_loseParcelsOf_X6_expectNoMore : GoodIn wsX2_loseParcelsOf (wsV RX2 118 RX6 yX6_expectNoMore wsX6_expectNoMore) := goodIn_app (goodIn_of _ (by decide +kernel)) ggX2_loseParcelsOf_X6_expectNoMore
set_option maxRecDepth 20000 in
theorem ggX2_loseParcelsOf_X5_move : GoodIn wsX2_loseParcelsOf wsX5_move := goodIn_r _ [24, 25, 26, 27, 28, 29, 30, 39, 40, 41, 42, 43, 44, 45] (by decide +kernel) (by decide +kernel)
set_option maxRecDepth 20000 in
theorem gX2_loseParcelsOf_X5_move : GoodIn wsX2_loseParcelsOf (wsV RX2 125 RX5 yX5_move wsX5_move) := goodIn_app (goodIn_of _ (by decide +kernel)) ggX2_loseParcelsOf_X5_move
theorem dX2_loseParcelsOf_0 : decode cX2_loseParcelsOf 0 = .ok (.iconst 0, 1) := by decide +kernel
theorem dX2_loseParcelsOf_1 : decode cX2_loseParcelsOf 1 = .ok (.istore_n 2, 1) := by decide +kernel
theorem dX2_loseParcelsOf_2 : decode cX2_loseParcelsOf 2 = .ok (.iconst 0, 1) := by decide +kernel
theorem dX2_loseParcelsOf_3 : decode cX2_loseParcelsOf 3 = .ok (.istore_n 3, 1) := by decide +kernel
theorem dX2_loseParcelsOf_4 : decode cX2_loseParcelsOf 4 = .ok (.iload_n 3, 1) := by decide +kernel
theorem dX2_loseParcelsOf_5 : decode cX2_loseParcelsOf 5 = .ok (.aload_n 0, 1) := by decide +kernel
theorem dX2_loseParcelsOf_6 : decode cX2_loseParcelsOf 6 = .ok (.getfield 21, 3) := by decide +kernel
theorem dX2_loseParcelsOf_9 : decode cX2_loseParcelsOf 9 = .ok (.getfield 102, 3) := by decide +kernel
theorem dX2_loseParcelsOf_12 : decode cX2_loseParcelsOf 12 = .ok (.if_icmp .ge 98, 3) := by decide +kernel
theorem dX2_loseParcelsOf_15 : decode cX2_loseParcelsOf 15 = .ok (.aload_n 0, 1) := by decide +kernel
theorem dX2_loseParcelsOf_16 : decode cX2_loseParcelsOf 16 = .ok (.getfield 21, 3) := by decide +kernel
theorem dX2_loseParcelsOf_19 : decode cX2_loseParcelsOf 19 = .ok (.getfield 105, 3) := by decide +kernel
theorem dX2_loseParcelsOf_22 : decode cX2_loseParcelsOf 22 = .ok (.iload_n 3, 1) := by decide +kernel
theorem dX2_loseParcelsOf_23 : decode cX2_loseParcelsOf 23 = .ok (.iaload, 1) := by decide +kernel
theorem dX2_loseParcelsOf_24 : decode cX2_loseParcelsOf 24 = .ok (.iload_n 1, 1) := by decide +kernel
theorem dX2_loseParcelsOf_25 : decode cX2_loseParcelsOf 25 = .ok (.if_icmp .eq 16, 3) := by decide +kernel
theorem dX2_loseParcelsOf_28 : decode cX2_loseParcelsOf 28 = .ok (.aload_n 0, 1) := by decide +kernel
theorem dX2_loseParcelsOf_29 : decode cX2_loseParcelsOf 29 = .ok (.getfield 21, 3) := by decide +kernel
theorem dX2_loseParcelsOf_32 : decode cX2_loseParcelsOf 32 = .ok (.getfield 109, 3) := by decide +kernel
theorem dX2_loseParcelsOf_35 : decode cX2_loseParcelsOf 35 = .ok (.iload_n 3, 1) := by decide +kernel
theorem dX2_loseParcelsOf_36 : decode cX2_loseParcelsOf 36 = .ok (.iaload, 1) := by decide +kernel
theorem dX2_loseParcelsOf_37 : decode cX2_loseParcelsOf 37 = .ok (.iload_n 1, 1) := by decide +kernel
theorem dX2_loseParcelsOf_38 : decode cX2_loseParcelsOf 38 = .ok (.if_icmp .ne 54, 3) := by decide +kernel
theorem dX2_loseParcelsOf_41 : decode cX2_loseParcelsOf 41 = .ok (.aload_n 0, 1) := by decide +kernel
theorem dX2_loseParcelsOf_42 : decode cX2_loseParcelsOf 42 = .ok (.getfield 27, 3) := by decide +kernel
theorem dX2_loseParcelsOf_45 : decode cX2_loseParcelsOf 45 = .ok (.aload_n 0, 1) := by decide +kernel
theorem dX2_loseParcelsOf_46 : decode cX2_loseParcelsOf 46 = .ok (.getfield 21, 3) := by decide +kernel
theorem dX2_loseParcelsOf_49 : decode cX2_loseParcelsOf 49 = .ok (.getfield 105, 3) := by decide +kernel
theorem dX2_loseParcelsOf_52 : decode cX2_loseParcelsOf 52 = .ok (.iload_n 3, 1) := by decide +kernel
theorem dX2_loseParcelsOf_53 : decode cX2_loseParcelsOf 53 = .ok (.iaload, 1) := by decide +kernel
theorem dX2_loseParcelsOf_54 : decode cX2_loseParcelsOf 54 = .ok (.aaload, 1) := by decide +kernel
theorem dX2_loseParcelsOf_55 : decode cX2_loseParcelsOf 55 = .ok (.getfield 49, 3) := by decide +kernel
theorem dX2_loseParcelsOf_58 : decode cX2_loseParcelsOf 58 = .ok (.aload_n 0, 1) := by decide +kernel
theorem dX2_loseParcelsOf_59 : decode cX2_loseParcelsOf 59 = .ok (.getfield 21, 3) := by decide +kernel
theorem dX2_loseParcelsOf_62 : decode cX2_loseParcelsOf 62 = .ok (.getfield 112, 3) := by decide +kernel
theorem dX2_loseParcelsOf_65 : decode cX2_loseParcelsOf 65 = .ok (.iload_n 3, 1) := by decide +kernel
theorem dX2_loseParcelsOf_66 : decode cX2_loseParcelsOf 66 = .ok (.iaload, 1) := by decide +kernel
theorem dX2_loseParcelsOf_67 : decode cX2_loseParcelsOf 67 = .ok (.aload_n 0, 1) := by decide +kernel
theorem dX2_loseParcelsOf_68 : decode cX2_loseParcelsOf 68 = .ok (.getfield 21, 3) := by decide +kernel
theorem dX2_loseParcelsOf_71 : decode cX2_loseParcelsOf 71 = .ok (.getfield 115, 3) := by decide +kernel
theorem dX2_loseParcelsOf_74 : decode cX2_loseParcelsOf 74 = .ok (.iload_n 3, 1) := by decide +kernel
theorem dX2_loseParcelsOf_75 : decode cX2_loseParcelsOf 75 = .ok (.iaload, 1) := by decide +kernel
theorem dX2_loseParcelsOf_76 : decode cX2_loseParcelsOf 76 = .ok (.invokevirtual 118, 3) := by decide +kernel
theorem dX2_loseParcelsOf_79 : decode cX2_loseParcelsOf 79 = .ok (.aload_n 0, 1) := by decide +kernel
theorem dX2_loseParcelsOf_80 : decode cX2_loseParcelsOf 80 = .ok (.dup, 1) := by decide +kernel
theorem dX2_loseParcelsOf_81 : decode cX2_loseParcelsOf 81 = .ok (.getfield 122, 3) := by decide +kernel
theorem dX2_loseParcelsOf_84 : decode cX2_loseParcelsOf 84 = .ok (.iconst 1, 1) := by decide +kernel
theorem dX2_loseParcelsOf_85 : decode cX2_loseParcelsOf 85 = .ok (.iadd, 1) := by decide +kernel
theorem dX2_loseParcelsOf_86 : decode cX2_loseParcelsOf 86 = .ok (.putfield 122, 3) := by decide +kernel
theorem dX2_loseParcelsOf_89 : decode cX2_loseParcelsOf 89 = .ok (.goto 15, 3) := by decide +kernel
theorem dX2_loseParcelsOf_92 : decode cX2_loseParcelsOf 92 = .ok (.aload_n 0, 1) := by decide +kernel
theorem dX2_loseParcelsOf_93 : decode cX2_loseParcelsOf 93 = .ok (.getfield 21, 3) := by decide +kernel
theorem dX2_loseParcelsOf_96 : decode cX2_loseParcelsOf 96 = .ok (.iload_n 3, 1) := by decide +kernel
theorem dX2_loseParcelsOf_97 : decode cX2_loseParcelsOf 97 = .ok (.iload_n 2, 1) := by decide +kernel
theorem dX2_loseParcelsOf_98 : decode cX2_loseParcelsOf 98 = .ok (.invokevirtual 125, 3) := by decide +kernel
theorem dX2_loseParcelsOf_101 : decode cX2_loseParcelsOf 101 = .ok (.iinc 2 1, 3) := by decide +kernel
theorem dX2_loseParcelsOf_104 : decode cX2_loseParcelsOf 104 = .ok (.iinc 3 1, 3) := by decide +kernel
theorem dX2_loseParcelsOf_107 : decode cX2_loseParcelsOf 107 = .ok (.goto (-103), 3) := by decide +kernel
theorem dX2_loseParcelsOf_110 : decode cX2_loseParcelsOf 110 = .ok (.aload_n 0, 1) := by decide +kernel
theorem dX2_loseParcelsOf_111 : decode cX2_loseParcelsOf 111 = .ok (.getfield 21, 3) := by decide +kernel
theorem dX2_loseParcelsOf_114 : decode cX2_loseParcelsOf 114 = .ok (.iload_n 2, 1) := by decide +kernel
theorem dX2_loseParcelsOf_115 : decode cX2_loseParcelsOf 115 = .ok (.putfield 102, 3) := by decide +kernel
theorem dX2_loseParcelsOf_118 : decode cX2_loseParcelsOf 118 = .ok (.return_, 1) := by decide +kernel
set_option maxRecDepth 20000 in
theorem ggX2_doneAndHere_X9_isIn : GoodIn wsX2_doneAndHere wsX9_isIn := goodIn_r _ [6] (by decide +kernel) (by decide +kernel)
set_option maxRecDepth 20000 in
theorem gX2_doneAndHere_X9_isIn_n69 : GoodIn wsX2_doneAndHere (wsX9_isIn) := ggX2_doneAndHere_X9_isIn
set_option maxRecDepth 20000 in
theorem ggX2_doneAndHere_X3_isDone : GoodIn wsX2_doneAndHere wsX3_isDone := goodIn_r _ [11, 12, 23, 24, 25, 26, 27, 28, 29, 30, 31, 32, 33, 34, 35] (by decide +kernel) (by decide +kernel)
set_option maxRecDepth 20000 in
theorem gX2_doneAndHere_X3_isDone : GoodIn wsX2_doneAndHere (wsV RX2 128 RX3 yX3_isDone wsX3_isDone) := goodIn_app (goodIn_of _ (by decide +kernel)) ggX2_doneAndHere_X3_isDone
set_option maxRecDepth 20000 in
theorem ggX2_doneAndHere_X9_oneIf : GoodIn wsX2_doneAndHere wsX9_oneIf := goodIn_r _ [14] (by decide +kernel) (by decide +kernel)
set_option maxRecDepth 20000 in
theorem gX2_doneAndHere_X9_oneIf_n132 : GoodIn wsX2_doneAndHere (wsX9_oneIf) := ggX2_doneAndHere_X9_oneIf
theorem dX2_doneAndHere_0 : decode cX2_doneAndHere 0 = .ok (.iconst 0, 1) := by decide +kernel
theorem dX2_doneAndHere_1 : decode cX2_doneAndHere 1 = .ok (.istore_n 1, 1) := by decide +kernel
theorem dX2_doneAndHere_2 : decode cX2_doneAndHere 2 = .ok (.iconst 0, 1) := by decide +kernel
theorem dX2_doneAndHere_3 : decode cX2_doneAndHere 3 = .ok (.istore_n 2, 1) := by decide +kernel
theorem dX2_doneAndHere_4 : decode cX2_doneAndHere 4 = .ok (.iload_n 2, 1) := by decide +kernel
theorem dX2_doneAndHere_5 : decode cX2_doneAndHere 5 = .ok (.aload_n 0, 1) := by decide +kernel
theorem dX2_doneAndHere_6 : decode cX2_doneAndHere 6 = .ok (.getfield 32, 3) := by decide +kernel
theorem dX2_doneAndHere_9 : decode cX2_doneAndHere 9 = .ok (.if_icmp .ge 43, 3) := by decide +kernel
theorem dX2_doneAndHere_12 : decode cX2_doneAndHere 12 = .ok (.iload_n 1, 1) := by decide +kernel
theorem dX2_doneAndHere_13 : decode cX2_doneAndHere 13 = .ok (.aload_n 0, 1) := by decide +kernel
theorem dX2_doneAndHere_14 : decode cX2_doneAndHere 14 = .ok (.getfield 62, 3) := by decide +kernel
theorem dX2_doneAndHere_17 : decode cX2_doneAndHere 17 = .ok (.iload_n 2, 1) := by decide +kernel
theorem dX2_doneAndHere_18 : decode cX2_doneAndHere 18 = .ok (.invokestatic 69, 3) := by decide +kernel
theorem dX2_doneAndHere_21 : decode cX2_doneAndHere 21 = .ok (.ifCond .eq 19, 3) := by decide +kernel
theorem dX2_doneAndHere_24 : decode cX2_doneAndHere 24 = .ok (.aload_n 0, 1) := by decide +kernel
theorem dX2_doneAndHere_25 : decode cX2_doneAndHere 25 = .ok (.getfield 27, 3) := by decide +kernel
theorem dX2_doneAndHere_28 : decode cX2_doneAndHere 28 = .ok (.iload_n 2, 1) := by decide +kernel
theorem dX2_doneAndHere_29 : decode cX2_doneAndHere 29 = .ok (.aaload, 1) := by decide +kernel
theorem dX2_doneAndHere_30 : decode cX2_doneAndHere 30 = .ok (.invokevirtual 128, 3) := by decide +kernel
theorem dX2_doneAndHere_33 : decode cX2_doneAndHere 33 = .ok (.ifCond .eq 7, 3) := by decide +kernel
theorem dX2_doneAndHere_36 : decode cX2_doneAndHere 36 = .ok (.iconst 1, 1) := by decide +kernel
theorem dX2_doneAndHere_37 : decode cX2_doneAndHere 37 = .ok (.goto 4, 3) := by decide +kernel
theorem dX2_doneAndHere_40 : decode cX2_doneAndHere 40 = .ok (.iconst 0, 1) := by decide +kernel
theorem dX2_doneAndHere_41 : decode cX2_doneAndHere 41 = .ok (.invokestatic 132, 3) := by decide +kernel
theorem dX2_doneAndHere_44 : decode cX2_doneAndHere 44 = .ok (.iadd, 1) := by decide +kernel
theorem dX2_doneAndHere_45 : decode cX2_doneAndHere 45 = .ok (.istore_n 1, 1) := by decide +kernel
theorem dX2_doneAndHere_46 : decode cX2_doneAndHere 46 = .ok (.iinc 2 1, 3) := by decide +kernel
theorem dX2_doneAndHere_49 : decode cX2_doneAndHere 49 = .ok (.goto (-45), 3) := by decide +kernel
theorem dX2_doneAndHere_52 : decode cX2_doneAndHere 52 = .ok (.iload_n 1, 1) := by decide +kernel
theorem dX2_doneAndHere_53 : decode cX2_doneAndHere 53 = .ok (.ireturn, 1) := by decide +kernel
theorem dX2_failedInAll_0 : decode cX2_failedInAll 0 = .ok (.iconst 0, 1) := by decide +kernel
theorem dX2_failedInAll_1 : decode cX2_failedInAll 1 = .ok (.istore_n 1, 1) := by decide +kernel
theorem dX2_failedInAll_2 : decode cX2_failedInAll 2 = .ok (.iconst 0, 1) := by decide +kernel
theorem dX2_failedInAll_3 : decode cX2_failedInAll 3 = .ok (.istore_n 2, 1) := by decide +kernel
theorem dX2_failedInAll_4 : decode cX2_failedInAll 4 = .ok (.iload_n 2, 1) := by decide +kernel
theorem dX2_failedInAll_5 : decode cX2_failedInAll 5 = .ok (.aload_n 0, 1) := by decide +kernel
theorem dX2_failedInAll_6 : decode cX2_failedInAll 6 = .ok (.getfield 32, 3) := by decide +kernel
theorem dX2_failedInAll_9 : decode cX2_failedInAll 9 = .ok (.if_icmp .ge 21, 3) := by decide +kernel
theorem dX2_failedInAll_12 : decode cX2_failedInAll 12 = .ok (.iload_n 1, 1) := by decide +kernel
theorem dX2_failedInAll_13 : decode cX2_failedInAll 13 = .ok (.aload_n 0, 1) := by decide +kernel
theorem dX2_failedInAll_14 : decode cX2_failedInAll 14 = .ok (.getfield 27, 3) := by decide +kernel
theorem dX2_failedInAll_17 : decode cX2_failedInAll 17 = .ok (.iload_n 2, 1) := by decide +kernel
theorem dX2_failedInAll_18 : decode cX2_failedInAll 18 = .ok (.aaload, 1) := by decide +kernel
theorem dX2_failedInAll_19 : decode cX2_failedInAll 19 = .ok (.getfield 136, 3) := by decide +kernel
theorem dX2_failedInAll_22 : decode cX2_failedInAll 22 = .ok (.iadd, 1) := by decide +kernel
theorem dX2_failedInAll_23 : decode cX2_failedInAll 23 = .ok (.istore_n 1, 1) := by decide +kernel
theorem dX2_failedInAll_24 : decode cX2_failedInAll 24 = .ok (.iinc 2 1, 3) := by decide +kernel
theorem dX2_failedInAll_27 : decode cX2_failedInAll 27 = .ok (.goto (-23), 3) := by decide +kernel
theorem dX2_failedInAll_30 : decode cX2_failedInAll 30 = .ok (.iload_n 1, 1) := by decide +kernel
theorem dX2_failedInAll_31 : decode cX2_failedInAll 31 = .ok (.ireturn, 1) := by decide +kernel
theorem dX2_spareInAll_0 : decode cX2_spareInAll 0 = .ok (.iconst 0, 1) := by decide +kernel
theorem dX2_spareInAll_1 : decode cX2_spareInAll 1 = .ok (.istore_n 1, 1) := by decide +kernel
theorem dX2_spareInAll_2 : decode cX2_spareInAll 2 = .ok (.iconst 0, 1) := by decide +kernel
theorem dX2_spareInAll_3 : decode cX2_spareInAll 3 = .ok (.istore_n 2, 1) := by decide +kernel
theorem dX2_spareInAll_4 : decode cX2_spareInAll 4 = .ok (.iload_n 2, 1) := by decide +kernel
theorem dX2_spareInAll_5 : decode cX2_spareInAll 5 = .ok (.aload_n 0, 1) := by decide +kernel
theorem dX2_spareInAll_6 : decode cX2_spareInAll 6 = .ok (.getfield 32, 3) := by decide +kernel
theorem dX2_spareInAll_9 : decode cX2_spareInAll 9 = .ok (.if_icmp .ge 21, 3) := by decide +kernel
theorem dX2_spareInAll_12 : decode cX2_spareInAll 12 = .ok (.iload_n 1, 1) := by decide +kernel
theorem dX2_spareInAll_13 : decode cX2_spareInAll 13 = .ok (.aload_n 0, 1) := by decide +kernel
theorem dX2_spareInAll_14 : decode cX2_spareInAll 14 = .ok (.getfield 27, 3) := by decide +kernel
theorem dX2_spareInAll_17 : decode cX2_spareInAll 17 = .ok (.iload_n 2, 1) := by decide +kernel
theorem dX2_spareInAll_18 : decode cX2_spareInAll 18 = .ok (.aaload, 1) := by decide +kernel
theorem dX2_spareInAll_19 : decode cX2_spareInAll 19 = .ok (.getfield 139, 3) := by decide +kernel
theorem dX2_spareInAll_22 : decode cX2_spareInAll 22 = .ok (.iadd, 1) := by decide +kernel
theorem dX2_spareInAll_23 : decode cX2_spareInAll 23 = .ok (.istore_n 1, 1) := by decide +kernel
theorem dX2_spareInAll_24 : decode cX2_spareInAll 24 = .ok (.iinc 2 1, 3) := by decide +kernel
theorem dX2_spareInAll_27 : decode cX2_spareInAll 27 = .ok (.goto (-23), 3) := by decide +kernel
theorem dX2_spareInAll_30 : decode cX2_spareInAll 30 = .ok (.iload_n 1, 1) := by decide +kernel
theorem dX2_spareInAll_31 : decode cX2_spareInAll 31 = .ok (.ireturn, 1) := by decide +kernel
set_option maxRecDepth 20000 in
theorem ggX3_init_X6_init : GoodIn wsX3_init wsX6_init := goodIn_r _ [16, 17, 2, 3, 18, 19, 20, 21, 32, 33, 34, 35, 36, 37] (by decide +kernel) (by decide +kernel)
set_option maxRecDepth 20000 in
theorem gX3_init_X6_init : GoodIn wsX3_init (wsX6_init) := ggX3_init_X6_init
set_option maxRecDepth 20000 in
theorem ggX3_init_X7_init : GoodIn wsX3_init wsX7_init := goodIn_r _ [24, 25, 2, 3, 18, 26, 27, 28, 29, 30, 31, 51, 52, 53, 54, 55, 56, 57, 58, 59, 60] (by decide +kernel) (by decide +kernel)
set_option maxRecDepth 20000 in
theorem gX3_init_X7_init : GoodIn wsX3_init (wsX7_init) := ggX3_init_X7_init
theorem dX3_init_0 : decode cX3_init 0 = .ok (.aload_n 0, 1) := by decide +kernel
theorem dX3_init_1 : decode cX3_init 1 = .ok (.invokespecial 3, 3) := by decide +kernel
theorem dX3_init_4 : decode cX3_init 4 = .ok (.aload_n 0, 1) := by decide +kernel
theorem dX3_init_5 : decode cX3_init 5 = .ok (.new 9, 3) := by decide +kernel
theorem dX3_init_8 : decode cX3_init 8 = .ok (.dup, 1) := by decide +kernel
theorem dX3_init_9 : decode cX3_init 9 = .ok (.invokespecial 11, 3) := by decide +kernel
theorem dX3_init_12 : decode cX3_init 12 = .ok (.putfield 12, 3) := by decide +kernel
theorem dX3_init_15 : decode cX3_init 15 = .ok (.aload_n 0, 1) := by decide +kernel
theorem dX3_init_16 : decode cX3_init 16 = .ok (.new 18, 3) := by decide +kernel
theorem dX3_init_19 : decode cX3_init 19 = .ok (.dup, 1) := by decide +kernel
theorem dX3_init_20 : decode cX3_init 20 = .ok (.invokespecial 20, 3) := by decide +kernel
theorem dX3_init_23 : decode cX3_init 23 = .ok (.putfield 21, 3) := by decide +kernel
theorem dX3_init_26 : decode cX3_init 26 = .ok (.aload_n 0, 1) := by decide +kernel
theorem dX3_init_27 : decode cX3_init 27 = .ok (.iconst 2, 1) := by decide +kernel
theorem dX3_init_28 : decode cX3_init 28 = .ok (.putfield 25, 3) := by decide +kernel
theorem dX3_init_31 : decode cX3_init 31 = .ok (.aload_n 0, 1) := by decide +kernel
theorem dX3_init_32 : decode cX3_init 32 = .ok (.iconst (-1), 1) := by decide +kernel
theorem dX3_init_33 : decode cX3_init 33 = .ok (.putfield 29, 3) := by decide +kernel
theorem dX3_init_36 : decode cX3_init 36 = .ok (.return_, 1) := by decide +kernel
theorem dX3_isDone_0 : decode cX3_isDone 0 = .ok (.aload_n 0, 1) := by decide +kernel
theorem dX3_isDone_1 : decode cX3_isDone 1 = .ok (.getfield 29, 3) := by decide +kernel
theorem dX3_isDone_4 : decode cX3_isDone 4 = .ok (.iconst (-1), 1) := by decide +kernel
theorem dX3_isDone_5 : decode cX3_isDone 5 = .ok (.if_icmp .eq 7, 3) := by decide +kernel
theorem dX3_isDone_8 : decode cX3_isDone 8 = .ok (.iconst 1, 1) := by decide +kernel
theorem dX3_isDone_9 : decode cX3_isDone 9 = .ok (.goto 4, 3) := by decide +kernel
theorem dX3_isDone_12 : decode cX3_isDone 12 = .ok (.iconst 0, 1) := by decide +kernel
theorem dX3_isDone_13 : decode cX3_isDone 13 = .ok (.ireturn, 1) := by decide +kernel
theorem dX3_opensToNobody_0 : decode cX3_opensToNobody 0 = .ok (.aload_n 0, 1) := by decide +kernel
theorem dX3_opensToNobody_1 : decode cX3_opensToNobody 1 = .ok (.getfield 32, 3) := by decide +kernel
theorem dX3_opensToNobody_4 : decode cX3_opensToNobody 4 = .ok (.iconst 2, 1) := by decide +kernel
theorem dX3_opensToNobody_5 : decode cX3_opensToNobody 5 = .ok (.if_icmp .eq 11, 3) := by decide +kernel
theorem dX3_opensToNobody_8 : decode cX3_opensToNobody 8 = .ok (.aload_n 0, 1) := by decide +kernel
theorem dX3_opensToNobody_9 : decode cX3_opensToNobody 9 = .ok (.getfield 32, 3) := by decide +kernel
theorem dX3_opensToNobody_12 : decode cX3_opensToNobody 12 = .ok (.iconst 5, 1) := by decide +kernel
theorem dX3_opensToNobody_13 : decode cX3_opensToNobody 13 = .ok (.if_icmp .ne 7, 3) := by decide +kernel
theorem dX3_opensToNobody_16 : decode cX3_opensToNobody 16 = .ok (.iconst 1, 1) := by decide +kernel
theorem dX3_opensToNobody_17 : decode cX3_opensToNobody 17 = .ok (.goto 4, 3) := by decide +kernel
theorem dX3_opensToNobody_20 : decode cX3_opensToNobody 20 = .ok (.iconst 0, 1) := by decide +kernel
theorem dX3_opensToNobody_21 : decode cX3_opensToNobody 21 = .ok (.ireturn, 1) := by decide +kernel
theorem dX3_toldPieces_0 : decode cX3_toldPieces 0 = .ok (.aload_n 0, 1) := by decide +kernel
theorem dX3_toldPieces_1 : decode cX3_toldPieces 1 = .ok (.getfield 32, 3) := by decide +kernel
theorem dX3_toldPieces_4 : decode cX3_toldPieces 4 = .ok (.iconst 5, 1) := by decide +kernel
theorem dX3_toldPieces_5 : decode cX3_toldPieces 5 = .ok (.if_icmp .ne 16, 3) := by decide +kernel
theorem dX3_toldPieces_8 : decode cX3_toldPieces 8 = .ok (.aload_n 0, 1) := by decide +kernel
theorem dX3_toldPieces_9 : decode cX3_toldPieces 9 = .ok (.getfield 12, 3) := by decide +kernel
theorem dX3_toldPieces_12 : decode cX3_toldPieces 12 = .ok (.getfield 35, 3) := by decide +kernel
theorem dX3_toldPieces_15 : decode cX3_toldPieces 15 = .ok (.ldc 38, 2) := by decide +kernel
theorem dX3_toldPieces_17 : decode cX3_toldPieces 17 = .ok (.iand, 1) := by decide +kernel
theorem dX3_toldPieces_18 : decode cX3_toldPieces 18 = .ok (.goto 10, 3) := by decide +kernel
theorem dX3_toldPieces_21 : decode cX3_toldPieces 21 = .ok (.aload_n 0, 1) := by decide +kernel
theorem dX3_toldPieces_22 : decode cX3_toldPieces 22 = .ok (.getfield 12, 3) := by decide +kernel
theorem dX3_toldPieces_25 : decode cX3_toldPieces 25 = .ok (.getfield 35, 3) := by decide +kernel
theorem dX3_toldPieces_28 : decode cX3_toldPieces 28 = .ok (.ireturn, 1) := by decide +kernel
set_option maxRecDepth 20000 in
theorem ggX3_lateNumberOf_X3_isDone : GoodIn wsX3_lateNumberOf wsX3_isDone := goodIn_r _ [8, 9, 10, 11, 12, 13, 14, 15, 16, 17, 18, 19, 20, 21, 22] (by decide +kernel) (by decide +kernel)
set_option maxRecDepth 20000 in
theorem gX3_lateNumberOf_X3_isDone : GoodIn wsX3_lateNumberOf (wsV RX3 39 RX3 yX3_isDone wsX3_isDone) := goodIn_app (goodIn_of _ (by decide +kernel)) ggX3_lateNumberOf_X3_isDone
theorem dX3_lateNumberOf_0 : decode cX3_lateNumberOf 0 = .ok (.aload_n 0, 1) := by decide +kernel
theorem dX3_lateNumberOf_1 : decode cX3_lateNumberOf 1 = .ok (.invokevirtual 39, 3) := by decide +kernel
theorem dX3_lateNumberOf_4 : decode cX3_lateNumberOf 4 = .ok (.ifCond .eq 15, 3) := by decide +kernel
theorem dX3_lateNumberOf_7 : decode cX3_lateNumberOf 7 = .ok (.aload_n 0, 1) := by decide +kernel
theorem dX3_lateNumberOf_8 : decode cX3_lateNumberOf 8 = .ok (.getfield 21, 3) := by decide +kernel
theorem dX3_lateNumberOf_11 : decode cX3_lateNumberOf 11 = .ok (.getfield 43, 3) := by decide +kernel
theorem dX3_lateNumberOf_14 : decode cX3_lateNumberOf 14 = .ok (.iload_n 1, 1) := by decide +kernel
theorem dX3_lateNumberOf_15 : decode cX3_lateNumberOf 15 = .ok (.iaload, 1) := by decide +kernel
theorem dX3_lateNumberOf_16 : decode cX3_lateNumberOf 16 = .ok (.goto 12, 3) := by decide +kernel
theorem dX3_lateNumberOf_19 : decode cX3_lateNumberOf 19 = .ok (.aload_n 0, 1) := by decide +kernel
theorem dX3_lateNumberOf_20 : decode cX3_lateNumberOf 20 = .ok (.getfield 21, 3) := by decide +kernel
theorem dX3_lateNumberOf_23 : decode cX3_lateNumberOf 23 = .ok (.getfield 47, 3) := by decide +kernel
theorem dX3_lateNumberOf_26 : decode cX3_lateNumberOf 26 = .ok (.iload_n 1, 1) := by decide +kernel
theorem dX3_lateNumberOf_27 : decode cX3_lateNumberOf 27 = .ok (.iaload, 1) := by decide +kernel
theorem dX3_lateNumberOf_28 : decode cX3_lateNumberOf 28 = .ok (.ireturn, 1) := by decide +kernel
theorem dX3_nowSendsFalse_0 : decode cX3_nowSendsFalse 0 = .ok (.aload_n 0, 1) := by decide +kernel
theorem dX3_nowSendsFalse_1 : decode cX3_nowSendsFalse 1 = .ok (.getfield 32, 3) := by decide +kernel
theorem dX3_nowSendsFalse_4 : decode cX3_nowSendsFalse 4 = .ok (.iconst 3, 1) := by decide +kernel
theorem dX3_nowSendsFalse_5 : decode cX3_nowSendsFalse 5 = .ok (.if_icmp .ne 26, 3) := by decide +kernel
theorem dX3_nowSendsFalse_8 : decode cX3_nowSendsFalse 8 = .ok (.aload_n 0, 1) := by decide +kernel
theorem dX3_nowSendsFalse_9 : decode cX3_nowSendsFalse 9 = .ok (.getfield 25, 3) := by decide +kernel
theorem dX3_nowSendsFalse_12 : decode cX3_nowSendsFalse 12 = .ok (.ifCond .le 19, 3) := by decide +kernel
theorem dX3_nowSendsFalse_15 : decode cX3_nowSendsFalse 15 = .ok (.aload_n 0, 1) := by decide +kernel
theorem dX3_nowSendsFalse_16 : decode cX3_nowSendsFalse 16 = .ok (.getfield 50, 3) := by decide +kernel
theorem dX3_nowSendsFalse_19 : decode cX3_nowSendsFalse 19 = .ok (.aload_n 0, 1) := by decide +kernel
theorem dX3_nowSendsFalse_20 : decode cX3_nowSendsFalse 20 = .ok (.getfield 25, 3) := by decide +kernel
theorem dX3_nowSendsFalse_23 : decode cX3_nowSendsFalse 23 = .ok (.irem, 1) := by decide +kernel
theorem dX3_nowSendsFalse_24 : decode cX3_nowSendsFalse 24 = .ok (.ifCond .ne 7, 3) := by decide +kernel
theorem dX3_nowSendsFalse_27 : decode cX3_nowSendsFalse 27 = .ok (.iconst 1, 1) := by decide +kernel
theorem dX3_nowSendsFalse_28 : decode cX3_nowSendsFalse 28 = .ok (.goto 4, 3) := by decide +kernel
theorem dX3_nowSendsFalse_31 : decode cX3_nowSendsFalse 31 = .ok (.iconst 0, 1) := by decide +kernel
theorem dX3_nowSendsFalse_32 : decode cX3_nowSendsFalse 32 = .ok (.ireturn, 1) := by decide +kernel
theorem dX4_init_0 : decode cX4_init 0 = .ok (.aload_n 0, 1) := by decide +kernel
theorem dX4_init_1 : decode cX4_init 1 = .ok (.invokespecial 3, 3) := by decide +kernel
theorem dX4_init_4 : decode cX4_init 4 = .ok (.aload_n 0, 1) := by decide +kernel
theorem dX4_init_5 : decode cX4_init 5 = .ok (.aload_n 1, 1) := by decide +kernel
theorem dX4_init_6 : decode cX4_init 6 = .ok (.putfield 9, 3) := by decide +kernel
theorem dX4_init_9 : decode cX4_init 9 = .ok (.return_, 1) := by decide +kernel
set_option maxRecDepth 20000 in
theorem ggX4_openAll_X9_isIn : GoodIn wsX4_openAll wsX9_isIn := goodIn_r _ [6] (by decide +kernel) (by decide +kernel)
set_option maxRecDepth 20000 in
theorem gX4_openAll_X9_isIn_n24 : GoodIn wsX4_openAll (wsX9_isIn) := ggX4_openAll_X9_isIn
set_option maxRecDepth 20000 in
theorem ggX4_openAll_X4_openAnew : GoodIn wsX4_openAll wsX4_openAnew := goodIn_r _ [11, 1, 12, 13, 14, 15, 16, 17, 18, 19, 20, 21, 22, 23, 24, 25, 26, 27, 28, 29, 30, 31, 32, 33, 34, 35, 36, 37, 38, 39, 40, 41, 42, 43, 44, 45, 46, 47, 4, 5, 6, 48, 49, 50, 10, 51, 2, 52, 53, 54, 55, 56, 57, 58, 59, 60, 61, 62, 63, 64, 65, 66, 67, 68, 69, 70, 71, 72, 73, 74, 75, 76, 77, 78, 79, 80, 81, 82, 83, 84, 85, 86, 87, 88, 89, 90, 91, 92, 93, 94, 95, 96, 97, 98, 99, 100, 101, 102, 103, 104, 105, 106, 107, 108, 109, 110, 111, 112, 113, 114, 115] (by decide +kernel) (by decide +kernel)
set_option maxRecDepth 20000 in
theorem gX4_openAll_X4_openAnew : GoodIn wsX4_openAll (wsV RX4 28 RX4 yX4_openAnew wsX4_openAnew) := goodIn_app (goodIn_of _ (by decide +kernel)) ggX4_openAll_X4_openAnew
theorem dX4_openAll_0 : decode cX4_openAll 0 = .ok (.iconst 0, 1) := by decide +kernel
theorem dX4_openAll_1 : decode cX4_openAll 1 = .ok (.istore_n 1, 1) := by decide +kernel
theorem dX4_openAll_2 : decode cX4_openAll 2 = .ok (.iload_n 1, 1) := by decide +kernel
theorem dX4_openAll_3 : decode cX4_openAll 3 = .ok (.aload_n 0, 1) := by decide +kernel
theorem dX4_openAll_4 : decode cX4_openAll 4 = .ok (.getfield 9, 3) := by decide +kernel
theorem dX4_openAll_7 : decode cX4_openAll 7 = .ok (.getfield 15, 3) := by decide +kernel
theorem dX4_openAll_10 : decode cX4_openAll 10 = .ok (.if_icmp .ge 28, 3) := by decide +kernel
theorem dX4_openAll_13 : decode cX4_openAll 13 = .ok (.aload_n 0, 1) := by decide +kernel
theorem dX4_openAll_14 : decode cX4_openAll 14 = .ok (.getfield 9, 3) := by decide +kernel
theorem dX4_openAll_17 : decode cX4_openAll 17 = .ok (.getfield 21, 3) := by decide +kernel
theorem dX4_openAll_20 : decode cX4_openAll 20 = .ok (.iload_n 1, 1) := by decide +kernel
theorem dX4_openAll_21 : decode cX4_openAll 21 = .ok (.invokestatic 24, 3) := by decide +kernel
theorem dX4_openAll_24 : decode cX4_openAll 24 = .ok (.ifCond .eq 8, 3) := by decide +kernel
theorem dX4_openAll_27 : decode cX4_openAll 27 = .ok (.aload_n 0, 1) := by decide +kernel
theorem dX4_openAll_28 : decode cX4_openAll 28 = .ok (.iload_n 1, 1) := by decide +kernel
theorem dX4_openAll_29 : decode cX4_openAll 29 = .ok (.invokevirtual 28, 3) := by decide +kernel
theorem dX4_openAll_32 : decode cX4_openAll 32 = .ok (.iinc 1 1, 3) := by decide +kernel
theorem dX4_openAll_35 : decode cX4_openAll 35 = .ok (.goto (-33), 3) := by decide +kernel
theorem dX4_openAll_38 : decode cX4_openAll 38 = .ok (.return_, 1) := by decide +kernel
set_option maxRecDepth 20000 in
theorem ggX4_openAnew_X3_opensToNobody : GoodIn wsX4_openAnew wsX3_opensToNobody := goodIn_r _ [11, 12, 82, 83, 84, 85, 86, 87, 88, 89, 90, 91, 92, 93, 94] (by decide +kernel) (by decide +kernel)
set_option maxRecDepth 20000 in
theorem gX4_openAnew_X3_opensToNobody : GoodIn wsX4_openAnew (wsV RX4 42 RX3 yX3_opensToNobody wsX3_opensToNobody) := goodIn_app (goodIn_of _ (by decide +kernel)) ggX4_openAnew_X3_opensToNobody
set_option maxRecDepth 20000 in
theorem ggX4_openAnew_X2_wantersOf : GoodIn wsX4_openAnew wsX2_wantersOf := goodIn_r _ [17, 18, 19, 20, 21, 22, 23, 24, 10, 25, 12, 26, 27, 28, 29, 30, 31, 16, 32, 33, 34, 35, 36, 37, 38, 39, 40, 74, 75, 76, 77, 78, 79, 80, 81, 82, 83, 84, 85, 86, 87, 88, 89, 90, 91, 92, 93, 94, 105, 106, 107, 108, 109, 110, 95, 96, 97, 98, 99, 100, 101, 102, 103, 104] (by decide +kernel) (by decide +kernel)
set_option maxRecDepth 20000 in
theorem gX4_openAnew_X2_wantersOf : GoodIn wsX4_openAnew (wsV RX4 46 RX2 yX2_wantersOf wsX2_wantersOf) := goodIn_app (goodIn_of _ (by decide +kernel)) ggX4_openAnew_X2_wantersOf
set_option maxRecDepth 20000 in
theorem ggX4_openAnew_X4_latest : GoodIn wsX4_openAnew wsX4_latest := goodIn_r _ [45, 1, 46, 38, 39, 40, 47, 48, 49, 10, 50, 51, 52, 53, 54, 55, 56, 57, 58, 73, 74, 75, 76, 77, 78, 79, 80, 81, 82, 83, 84, 85, 86, 87, 88, 89, 90, 91, 92, 93, 94, 95, 96, 97, 98, 99, 100, 101, 102, 103, 104] (by decide +kernel) (by decide +kernel)
set_option maxRecDepth 20000 in
theorem gX4_openAnew_X4_latest : GoodIn wsX4_openAnew (wsV RX4 50 RX4 yX4_latest wsX4_latest) := goodIn_app (goodIn_of _ (by decide +kernel)) ggX4_openAnew_X4_latest
set_option maxRecDepth 20000 in
theorem ggX4_openAnew_X4_setOf : GoodIn wsX4_openAnew wsX4_setOf := goodIn_r _ [61] (by decide +kernel) (by decide +kernel)
set_option maxRecDepth 20000 in
theorem gX4_openAnew_X4_setOf : GoodIn wsX4_openAnew (va_wsS RX4 54 yX4_setOf wsX4_setOf) := goodIn_app (goodIn_of _ (by decide +kernel)) ggX4_openAnew_X4_setOf
set_option maxRecDepth 20000 in
theorem ggX4_openAnew_X4_nextByTurns : GoodIn wsX4_openAnew wsX4_nextByTurns := goodIn_r _ [65, 1, 46, 38, 39, 40, 73, 74, 75, 76, 77, 78, 79, 80, 81] (by decide +kernel) (by decide +kernel)
set_option maxRecDepth 20000 in
theorem gX4_openAnew_X4_nextByTurns : GoodIn wsX4_openAnew (wsV RX4 62 RX4 yX4_nextByTurns wsX4_nextByTurns) := goodIn_app (goodIn_of _ (by decide +kernel)) ggX4_openAnew_X4_nextByTurns
set_option maxRecDepth 20000 in
theorem ggX4_openAnew_X7_forgetLate : GoodIn wsX4_openAnew wsX7_forgetLate := goodIn_r _ [70, 71, 72, 95, 96, 97, 98, 99, 100, 101, 102, 103, 104] (by decide +kernel) (by decide +kernel)
set_option maxRecDepth 20000 in
theorem gX4_openAnew_X7_forgetLate : GoodIn wsX4_openAnew (wsV RX4 72 RX7 yX7_forgetLate wsX7_forgetLate) := goodIn_app (goodIn_of _ (by decide +kernel)) ggX4_openAnew_X7_forgetLate
theorem dX4_openAnew_0 : decode cX4_openAnew 0 = .ok (.aload_n 0, 1) := by decide +kernel
theorem dX4_openAnew_1 : decode cX4_openAnew 1 = .ok (.getfield 9, 3) := by decide +kernel
theorem dX4_openAnew_4 : decode cX4_openAnew 4 = .ok (.getfield 32, 3) := by decide +kernel
theorem dX4_openAnew_7 : decode cX4_openAnew 7 = .ok (.iload_n 1, 1) := by decide +kernel
theorem dX4_openAnew_8 : decode cX4_openAnew 8 = .ok (.aaload, 1) := by decide +kernel
theorem dX4_openAnew_9 : decode cX4_openAnew 9 = .ok (.astore_n 2, 1) := by decide +kernel
theorem dX4_openAnew_10 : decode cX4_openAnew 10 = .ok (.aload_n 2, 1) := by decide +kernel
theorem dX4_openAnew_11 : decode cX4_openAnew 11 = .ok (.getfield 36, 3) := by decide +kernel
theorem dX4_openAnew_14 : decode cX4_openAnew 14 = .ok (.astore_n 3, 1) := by decide +kernel
theorem dX4_openAnew_15 : decode cX4_openAnew 15 = .ok (.aload_n 2, 1) := by decide +kernel
theorem dX4_openAnew_16 : decode cX4_openAnew 16 = .ok (.invokevirtual 42, 3) := by decide +kernel
theorem dX4_openAnew_19 : decode cX4_openAnew 19 = .ok (.ifCond .eq 7, 3) := by decide +kernel
theorem dX4_openAnew_22 : decode cX4_openAnew 22 = .ok (.iconst 0, 1) := by decide +kernel
theorem dX4_openAnew_23 : decode cX4_openAnew 23 = .ok (.goto 11, 3) := by decide +kernel
theorem dX4_openAnew_26 : decode cX4_openAnew 26 = .ok (.aload_n 0, 1) := by decide +kernel
theorem dX4_openAnew_27 : decode cX4_openAnew 27 = .ok (.getfield 9, 3) := by decide +kernel
theorem dX4_openAnew_30 : decode cX4_openAnew 30 = .ok (.iload_n 1, 1) := by decide +kernel
theorem dX4_openAnew_31 : decode cX4_openAnew 31 = .ok (.invokevirtual 46, 3) := by decide +kernel
theorem dX4_openAnew_34 : decode cX4_openAnew 34 = .ok (.istore 4, 2) := by decide +kernel
theorem dX4_openAnew_36 : decode cX4_openAnew 36 = .ok (.iconst 0, 1) := by decide +kernel
theorem dX4_openAnew_37 : decode cX4_openAnew 37 = .ok (.istore 5, 2) := by decide +kernel
theorem dX4_openAnew_39 : decode cX4_openAnew 39 = .ok (.iconst 0, 1) := by decide +kernel
theorem dX4_openAnew_40 : decode cX4_openAnew 40 = .ok (.istore 6, 2) := by decide +kernel
theorem dX4_openAnew_42 : decode cX4_openAnew 42 = .ok (.iload 6, 2) := by decide +kernel
theorem dX4_openAnew_44 : decode cX4_openAnew 44 = .ok (.iconst 3, 1) := by decide +kernel
theorem dX4_openAnew_45 : decode cX4_openAnew 45 = .ok (.if_icmp .ge 29, 3) := by decide +kernel
theorem dX4_openAnew_48 : decode cX4_openAnew 48 = .ok (.iload 5, 2) := by decide +kernel
theorem dX4_openAnew_50 : decode cX4_openAnew 50 = .ok (.aload_n 0, 1) := by decide +kernel
theorem dX4_openAnew_51 : decode cX4_openAnew 51 = .ok (.aload_n 2, 1) := by decide +kernel
theorem dX4_openAnew_52 : decode cX4_openAnew 52 = .ok (.iload 4, 2) := by decide +kernel
theorem dX4_openAnew_54 : decode cX4_openAnew 54 = .ok (.iload 5, 2) := by decide +kernel
theorem dX4_openAnew_56 : decode cX4_openAnew 56 = .ok (.iconst (-1), 1) := by decide +kernel
theorem dX4_openAnew_57 : decode cX4_openAnew 57 = .ok (.ixor, 1) := by decide +kernel
theorem dX4_openAnew_58 : decode cX4_openAnew 58 = .ok (.iand, 1) := by decide +kernel
theorem dX4_openAnew_59 : decode cX4_openAnew 59 = .ok (.invokevirtual 50, 3) := by decide +kernel
theorem dX4_openAnew_62 : decode cX4_openAnew 62 = .ok (.invokestatic 54, 3) := by decide +kernel
theorem dX4_openAnew_65 : decode cX4_openAnew 65 = .ok (.ior, 1) := by decide +kernel
theorem dX4_openAnew_66 : decode cX4_openAnew 66 = .ok (.istore 5, 2) := by decide +kernel
theorem dX4_openAnew_68 : decode cX4_openAnew 68 = .ok (.iinc 6 1, 3) := by decide +kernel
theorem dX4_openAnew_71 : decode cX4_openAnew 71 = .ok (.goto (-29), 3) := by decide +kernel
theorem dX4_openAnew_74 : decode cX4_openAnew 74 = .ok (.aload_n 0, 1) := by decide +kernel
theorem dX4_openAnew_75 : decode cX4_openAnew 75 = .ok (.aload_n 3, 1) := by decide +kernel
theorem dX4_openAnew_76 : decode cX4_openAnew 76 = .ok (.getfield 57, 3) := by decide +kernel
theorem dX4_openAnew_79 : decode cX4_openAnew 79 = .ok (.iload 4, 2) := by decide +kernel
theorem dX4_openAnew_81 : decode cX4_openAnew 81 = .ok (.iload 5, 2) := by decide +kernel
theorem dX4_openAnew_83 : decode cX4_openAnew 83 = .ok (.iconst (-1), 1) := by decide +kernel
theorem dX4_openAnew_84 : decode cX4_openAnew 84 = .ok (.ixor, 1) := by decide +kernel
theorem dX4_openAnew_85 : decode cX4_openAnew 85 = .ok (.iand, 1) := by decide +kernel
theorem dX4_openAnew_86 : decode cX4_openAnew 86 = .ok (.invokevirtual 62, 3) := by decide +kernel
theorem dX4_openAnew_89 : decode cX4_openAnew 89 = .ok (.istore 6, 2) := by decide +kernel
theorem dX4_openAnew_91 : decode cX4_openAnew 91 = .ok (.iload 6, 2) := by decide +kernel
theorem dX4_openAnew_93 : decode cX4_openAnew 93 = .ok (.iconst (-1), 1) := by decide +kernel
theorem dX4_openAnew_94 : decode cX4_openAnew 94 = .ok (.if_icmp .eq 9, 3) := by decide +kernel
theorem dX4_openAnew_97 : decode cX4_openAnew 97 = .ok (.aload_n 3, 1) := by decide +kernel
theorem dX4_openAnew_98 : decode cX4_openAnew 98 = .ok (.iload 6, 2) := by decide +kernel
theorem dX4_openAnew_100 : decode cX4_openAnew 100 = .ok (.putfield 57, 3) := by decide +kernel
theorem dX4_openAnew_103 : decode cX4_openAnew 103 = .ok (.aload_n 3, 1) := by decide +kernel
theorem dX4_openAnew_104 : decode cX4_openAnew 104 = .ok (.iload 6, 2) := by decide +kernel
theorem dX4_openAnew_106 : decode cX4_openAnew 106 = .ok (.putfield 66, 3) := by decide +kernel
theorem dX4_openAnew_109 : decode cX4_openAnew 109 = .ok (.aload_n 3, 1) := by decide +kernel
theorem dX4_openAnew_110 : decode cX4_openAnew 110 = .ok (.iload 5, 2) := by decide +kernel
theorem dX4_openAnew_112 : decode cX4_openAnew 112 = .ok (.iload 6, 2) := by decide +kernel
theorem dX4_openAnew_114 : decode cX4_openAnew 114 = .ok (.invokestatic 54, 3) := by decide +kernel
theorem dX4_openAnew_117 : decode cX4_openAnew 117 = .ok (.ior, 1) := by decide +kernel
theorem dX4_openAnew_118 : decode cX4_openAnew 118 = .ok (.putfield 69, 3) := by decide +kernel
theorem dX4_openAnew_121 : decode cX4_openAnew 121 = .ok (.aload_n 3, 1) := by decide +kernel
theorem dX4_openAnew_122 : decode cX4_openAnew 122 = .ok (.invokevirtual 72, 3) := by decide +kernel
theorem dX4_openAnew_125 : decode cX4_openAnew 125 = .ok (.return_, 1) := by decide +kernel
theorem dX4_setOf_0 : decode cX4_setOf 0 = .ok (.iload_n 0, 1) := by decide +kernel
theorem dX4_setOf_1 : decode cX4_setOf 1 = .ok (.iconst (-1), 1) := by decide +kernel
theorem dX4_setOf_2 : decode cX4_setOf 2 = .ok (.if_icmp .ne 7, 3) := by decide +kernel
theorem dX4_setOf_5 : decode cX4_setOf 5 = .ok (.iconst 0, 1) := by decide +kernel
theorem dX4_setOf_6 : decode cX4_setOf 6 = .ok (.goto 6, 3) := by decide +kernel
theorem dX4_setOf_9 : decode cX4_setOf 9 = .ok (.iconst 1, 1) := by decide +kernel
theorem dX4_setOf_10 : decode cX4_setOf 10 = .ok (.iload_n 0, 1) := by decide +kernel
theorem dX4_setOf_11 : decode cX4_setOf 11 = .ok (.ishl, 1) := by decide +kernel
theorem dX4_setOf_12 : decode cX4_setOf 12 = .ok (.ireturn, 1) := by decide +kernel
set_option maxRecDepth 20000 in
theorem ggX4_latest_X9_isIn : GoodIn wsX4_latest wsX9_isIn := goodIn_r _ [5] (by decide +kernel) (by decide +kernel)
set_option maxRecDepth 20000 in
theorem gX4_latest_X9_isIn_n24 : GoodIn wsX4_latest (wsX9_isIn) := ggX4_latest_X9_isIn
set_option maxRecDepth 20000 in
theorem ggX4_latest_X3_lateNumberOf : GoodIn wsX4_latest wsX3_lateNumberOf := goodIn_r _ [10, 11, 12, 13, 14, 15, 16, 9, 17, 18, 28, 29, 30, 31, 32, 33, 34, 35, 36, 37, 38, 39, 40, 41, 42, 43, 44, 45, 46, 47, 48, 49, 50] (by decide +kernel) (by decide +kernel)
set_option maxRecDepth 20000 in
theorem gX4_latest_X3_lateNumberOf : GoodIn wsX4_latest (wsV RX4 75 RX3 yX3_lateNumberOf wsX3_lateNumberOf) := goodIn_app (goodIn_of _ (by decide +kernel)) ggX4_latest_X3_lateNumberOf
theorem dX4_latest_0 : decode cX4_latest 0 = .ok (.iconst (-1), 1) := by decide +kernel
theorem dX4_latest_1 : decode cX4_latest 1 = .ok (.istore_n 3, 1) := by decide +kernel
theorem dX4_latest_2 : decode cX4_latest 2 = .ok (.iconst 0, 1) := by decide +kernel
theorem dX4_latest_3 : decode cX4_latest 3 = .ok (.istore 4, 2) := by decide +kernel
theorem dX4_latest_5 : decode cX4_latest 5 = .ok (.iload 4, 2) := by decide +kernel
theorem dX4_latest_7 : decode cX4_latest 7 = .ok (.aload_n 0, 1) := by decide +kernel
theorem dX4_latest_8 : decode cX4_latest 8 = .ok (.getfield 9, 3) := by decide +kernel
theorem dX4_latest_11 : decode cX4_latest 11 = .ok (.getfield 15, 3) := by decide +kernel
theorem dX4_latest_14 : decode cX4_latest 14 = .ok (.if_icmp .ge 40, 3) := by decide +kernel
theorem dX4_latest_17 : decode cX4_latest 17 = .ok (.iload_n 2, 1) := by decide +kernel
theorem dX4_latest_18 : decode cX4_latest 18 = .ok (.iload 4, 2) := by decide +kernel
theorem dX4_latest_20 : decode cX4_latest 20 = .ok (.invokestatic 24, 3) := by decide +kernel
theorem dX4_latest_23 : decode cX4_latest 23 = .ok (.ifCond .eq 25, 3) := by decide +kernel
theorem dX4_latest_26 : decode cX4_latest 26 = .ok (.iload_n 3, 1) := by decide +kernel
theorem dX4_latest_27 : decode cX4_latest 27 = .ok (.iconst (-1), 1) := by decide +kernel
theorem dX4_latest_28 : decode cX4_latest 28 = .ok (.if_icmp .eq 17, 3) := by decide +kernel
theorem dX4_latest_31 : decode cX4_latest 31 = .ok (.aload_n 1, 1) := by decide +kernel
theorem dX4_latest_32 : decode cX4_latest 32 = .ok (.iload 4, 2) := by decide +kernel
theorem dX4_latest_34 : decode cX4_latest 34 = .ok (.invokevirtual 75, 3) := by decide +kernel
theorem dX4_latest_37 : decode cX4_latest 37 = .ok (.aload_n 1, 1) := by decide +kernel
theorem dX4_latest_38 : decode cX4_latest 38 = .ok (.iload_n 3, 1) := by decide +kernel
theorem dX4_latest_39 : decode cX4_latest 39 = .ok (.invokevirtual 75, 3) := by decide +kernel
theorem dX4_latest_42 : decode cX4_latest 42 = .ok (.if_icmp .le 6, 3) := by decide +kernel
theorem dX4_latest_45 : decode cX4_latest 45 = .ok (.iload 4, 2) := by decide +kernel
theorem dX4_latest_47 : decode cX4_latest 47 = .ok (.istore_n 3, 1) := by decide +kernel
theorem dX4_latest_48 : decode cX4_latest 48 = .ok (.iinc 4 1, 3) := by decide +kernel
theorem dX4_latest_51 : decode cX4_latest 51 = .ok (.goto (-46), 3) := by decide +kernel
theorem dX4_latest_54 : decode cX4_latest 54 = .ok (.iload_n 3, 1) := by decide +kernel
theorem dX4_latest_55 : decode cX4_latest 55 = .ok (.ireturn, 1) := by decide +kernel
set_option maxRecDepth 20000 in
theorem ggX4_nextByTurns_X9_isIn : GoodIn wsX4_nextByTurns wsX9_isIn := goodIn_r _ [5] (by decide +kernel) (by decide +kernel)
set_option maxRecDepth 20000 in
theorem gX4_nextByTurns_X9_isIn_n24 : GoodIn wsX4_nextByTurns (wsX9_isIn) := ggX4_nextByTurns_X9_isIn
theorem dX4_nextByTurns_0 : decode cX4_nextByTurns 0 = .ok (.iconst (-1), 1) := by decide +kernel
theorem dX4_nextByTurns_1 : decode cX4_nextByTurns 1 = .ok (.istore_n 3, 1) := by decide +kernel
theorem dX4_nextByTurns_2 : decode cX4_nextByTurns 2 = .ok (.iconst 0, 1) := by decide +kernel
theorem dX4_nextByTurns_3 : decode cX4_nextByTurns 3 = .ok (.istore 4, 2) := by decide +kernel
theorem dX4_nextByTurns_5 : decode cX4_nextByTurns 5 = .ok (.iload 4, 2) := by decide +kernel
theorem dX4_nextByTurns_7 : decode cX4_nextByTurns 7 = .ok (.aload_n 0, 1) := by decide +kernel
theorem dX4_nextByTurns_8 : decode cX4_nextByTurns 8 = .ok (.getfield 9, 3) := by decide +kernel
theorem dX4_nextByTurns_11 : decode cX4_nextByTurns 11 = .ok (.getfield 15, 3) := by decide +kernel
theorem dX4_nextByTurns_14 : decode cX4_nextByTurns 14 = .ok (.if_icmp .ge 38, 3) := by decide +kernel
theorem dX4_nextByTurns_17 : decode cX4_nextByTurns 17 = .ok (.iload_n 2, 1) := by decide +kernel
theorem dX4_nextByTurns_18 : decode cX4_nextByTurns 18 = .ok (.iload 4, 2) := by decide +kernel
theorem dX4_nextByTurns_20 : decode cX4_nextByTurns 20 = .ok (.invokestatic 24, 3) := by decide +kernel
theorem dX4_nextByTurns_23 : decode cX4_nextByTurns 23 = .ok (.ifCond .ne 6, 3) := by decide +kernel
theorem dX4_nextByTurns_26 : decode cX4_nextByTurns 26 = .ok (.goto 20, 3) := by decide +kernel
theorem dX4_nextByTurns_29 : decode cX4_nextByTurns 29 = .ok (.iload 4, 2) := by decide +kernel
theorem dX4_nextByTurns_31 : decode cX4_nextByTurns 31 = .ok (.iload_n 1, 1) := by decide +kernel
theorem dX4_nextByTurns_32 : decode cX4_nextByTurns 32 = .ok (.if_icmp .le 6, 3) := by decide +kernel
theorem dX4_nextByTurns_35 : decode cX4_nextByTurns 35 = .ok (.iload 4, 2) := by decide +kernel
theorem dX4_nextByTurns_37 : decode cX4_nextByTurns 37 = .ok (.ireturn, 1) := by decide +kernel
theorem dX4_nextByTurns_38 : decode cX4_nextByTurns 38 = .ok (.iload_n 3, 1) := by decide +kernel
theorem dX4_nextByTurns_39 : decode cX4_nextByTurns 39 = .ok (.iconst (-1), 1) := by decide +kernel
theorem dX4_nextByTurns_40 : decode cX4_nextByTurns 40 = .ok (.if_icmp .ne 6, 3) := by decide +kernel
theorem dX4_nextByTurns_43 : decode cX4_nextByTurns 43 = .ok (.iload 4, 2) := by decide +kernel
theorem dX4_nextByTurns_45 : decode cX4_nextByTurns 45 = .ok (.istore_n 3, 1) := by decide +kernel
theorem dX4_nextByTurns_46 : decode cX4_nextByTurns 46 = .ok (.iinc 4 1, 3) := by decide +kernel
theorem dX4_nextByTurns_49 : decode cX4_nextByTurns 49 = .ok (.goto (-44), 3) := by decide +kernel
theorem dX4_nextByTurns_52 : decode cX4_nextByTurns 52 = .ok (.iload_n 3, 1) := by decide +kernel
theorem dX4_nextByTurns_53 : decode cX4_nextByTurns 53 = .ok (.ireturn, 1) := by decide +kernel
theorem dX5_init_0 : decode cX5_init 0 = .ok (.aload_n 0, 1) := by decide +kernel
theorem dX5_init_1 : decode cX5_init 1 = .ok (.invokespecial 3, 3) := by decide +kernel
theorem dX5_init_4 : decode cX5_init 4 = .ok (.aload_n 0, 1) := by decide +kernel
theorem dX5_init_5 : decode cX5_init 5 = .ok (.sipush 192, 3) := by decide +kernel
theorem dX5_init_8 : decode cX5_init 8 = .ok (.newarray .int, 2) := by decide +kernel
theorem dX5_init_10 : decode cX5_init 10 = .ok (.putfield 11, 3) := by decide +kernel
theorem dX5_init_13 : decode cX5_init 13 = .ok (.aload_n 0, 1) := by decide +kernel
theorem dX5_init_14 : decode cX5_init 14 = .ok (.sipush 192, 3) := by decide +kernel
theorem dX5_init_17 : decode cX5_init 17 = .ok (.newarray .int, 2) := by decide +kernel
theorem dX5_init_19 : decode cX5_init 19 = .ok (.putfield 15, 3) := by decide +kernel
theorem dX5_init_22 : decode cX5_init 22 = .ok (.aload_n 0, 1) := by decide +kernel
theorem dX5_init_23 : decode cX5_init 23 = .ok (.sipush 192, 3) := by decide +kernel
theorem dX5_init_26 : decode cX5_init 26 = .ok (.newarray .int, 2) := by decide +kernel
theorem dX5_init_28 : decode cX5_init 28 = .ok (.putfield 18, 3) := by decide +kernel
theorem dX5_init_31 : decode cX5_init 31 = .ok (.aload_n 0, 1) := by decide +kernel
theorem dX5_init_32 : decode cX5_init 32 = .ok (.sipush 192, 3) := by decide +kernel
theorem dX5_init_35 : decode cX5_init 35 = .ok (.newarray .int, 2) := by decide +kernel
theorem dX5_init_37 : decode cX5_init 37 = .ok (.putfield 21, 3) := by decide +kernel
theorem dX5_init_40 : decode cX5_init 40 = .ok (.aload_n 0, 1) := by decide +kernel
theorem dX5_init_41 : decode cX5_init 41 = .ok (.sipush 192, 3) := by decide +kernel
theorem dX5_init_44 : decode cX5_init 44 = .ok (.newarray .int, 2) := by decide +kernel
theorem dX5_init_46 : decode cX5_init 46 = .ok (.putfield 24, 3) := by decide +kernel
theorem dX5_init_49 : decode cX5_init 49 = .ok (.aload_n 0, 1) := by decide +kernel
theorem dX5_init_50 : decode cX5_init 50 = .ok (.sipush 192, 3) := by decide +kernel
theorem dX5_init_53 : decode cX5_init 53 = .ok (.newarray .int, 2) := by decide +kernel
theorem dX5_init_55 : decode cX5_init 55 = .ok (.putfield 27, 3) := by decide +kernel
theorem dX5_init_58 : decode cX5_init 58 = .ok (.return_, 1) := by decide +kernel
theorem dX5_hasRoom_0 : decode cX5_hasRoom 0 = .ok (.aload_n 0, 1) := by decide +kernel
theorem dX5_hasRoom_1 : decode cX5_hasRoom 1 = .ok (.getfield 30, 3) := by decide +kernel
theorem dX5_hasRoom_4 : decode cX5_hasRoom 4 = .ok (.sipush 192, 3) := by decide +kernel
theorem dX5_hasRoom_7 : decode cX5_hasRoom 7 = .ok (.if_icmp .ge 7, 3) := by decide +kernel
theorem dX5_hasRoom_10 : decode cX5_hasRoom 10 = .ok (.iconst 1, 1) := by decide +kernel
theorem dX5_hasRoom_11 : decode cX5_hasRoom 11 = .ok (.goto 4, 3) := by decide +kernel
theorem dX5_hasRoom_14 : decode cX5_hasRoom 14 = .ok (.iconst 0, 1) := by decide +kernel
theorem dX5_hasRoom_15 : decode cX5_hasRoom 15 = .ok (.ireturn, 1) := by decide +kernel
set_option maxRecDepth 20000 in
theorem ggX5_add_X5_hasRoom : GoodIn wsX5_add wsX5_hasRoom := goodIn_r _ [12, 2, 13, 14, 15, 16, 17, 18, 19] (by decide +kernel) (by decide +kernel)
set_option maxRecDepth 20000 in
theorem gX5_add_X5_hasRoom : GoodIn wsX5_add (wsV RX5 34 RX5 yX5_hasRoom wsX5_hasRoom) := goodIn_app (goodIn_of _ (by decide +kernel)) ggX5_add_X5_hasRoom
theorem dX5_add_0 : decode cX5_add 0 = .ok (.aload_n 0, 1) := by decide +kernel
theorem dX5_add_1 : decode cX5_add 1 = .ok (.invokevirtual 34, 3) := by decide +kernel
theorem dX5_add_4 : decode cX5_add 4 = .ok (.ifCond .ne 4, 3) := by decide +kernel
theorem dX5_add_7 : decode cX5_add 7 = .ok (.return_, 1) := by decide +kernel
theorem dX5_add_8 : decode cX5_add 8 = .ok (.aload_n 0, 1) := by decide +kernel
theorem dX5_add_9 : decode cX5_add 9 = .ok (.getfield 11, 3) := by decide +kernel
theorem dX5_add_12 : decode cX5_add 12 = .ok (.aload_n 0, 1) := by decide +kernel
theorem dX5_add_13 : decode cX5_add 13 = .ok (.getfield 30, 3) := by decide +kernel
theorem dX5_add_16 : decode cX5_add 16 = .ok (.iload_n 1, 1) := by decide +kernel
theorem dX5_add_17 : decode cX5_add 17 = .ok (.iastore, 1) := by decide +kernel
theorem dX5_add_18 : decode cX5_add 18 = .ok (.aload_n 0, 1) := by decide +kernel
theorem dX5_add_19 : decode cX5_add 19 = .ok (.getfield 15, 3) := by decide +kernel
theorem dX5_add_22 : decode cX5_add 22 = .ok (.aload_n 0, 1) := by decide +kernel
theorem dX5_add_23 : decode cX5_add 23 = .ok (.getfield 30, 3) := by decide +kernel
theorem dX5_add_26 : decode cX5_add 26 = .ok (.iload_n 2, 1) := by decide +kernel
theorem dX5_add_27 : decode cX5_add 27 = .ok (.iastore, 1) := by decide +kernel
theorem dX5_add_28 : decode cX5_add 28 = .ok (.aload_n 0, 1) := by decide +kernel
theorem dX5_add_29 : decode cX5_add 29 = .ok (.getfield 18, 3) := by decide +kernel
theorem dX5_add_32 : decode cX5_add 32 = .ok (.aload_n 0, 1) := by decide +kernel
theorem dX5_add_33 : decode cX5_add 33 = .ok (.getfield 30, 3) := by decide +kernel
theorem dX5_add_36 : decode cX5_add 36 = .ok (.iload_n 3, 1) := by decide +kernel
theorem dX5_add_37 : decode cX5_add 37 = .ok (.iastore, 1) := by decide +kernel
theorem dX5_add_38 : decode cX5_add 38 = .ok (.aload_n 0, 1) := by decide +kernel
theorem dX5_add_39 : decode cX5_add 39 = .ok (.getfield 21, 3) := by decide +kernel
theorem dX5_add_42 : decode cX5_add 42 = .ok (.aload_n 0, 1) := by decide +kernel
theorem dX5_add_43 : decode cX5_add 43 = .ok (.getfield 30, 3) := by decide +kernel
theorem dX5_add_46 : decode cX5_add 46 = .ok (.iload 4, 2) := by decide +kernel
theorem dX5_add_48 : decode cX5_add 48 = .ok (.iastore, 1) := by decide +kernel
theorem dX5_add_49 : decode cX5_add 49 = .ok (.aload_n 0, 1) := by decide +kernel
theorem dX5_add_50 : decode cX5_add 50 = .ok (.getfield 24, 3) := by decide +kernel
theorem dX5_add_53 : decode cX5_add 53 = .ok (.aload_n 0, 1) := by decide +kernel
theorem dX5_add_54 : decode cX5_add 54 = .ok (.getfield 30, 3) := by decide +kernel
theorem dX5_add_57 : decode cX5_add 57 = .ok (.iload 5, 2) := by decide +kernel
theorem dX5_add_59 : decode cX5_add 59 = .ok (.iastore, 1) := by decide +kernel
theorem dX5_add_60 : decode cX5_add 60 = .ok (.aload_n 0, 1) := by decide +kernel
theorem dX5_add_61 : decode cX5_add 61 = .ok (.getfield 27, 3) := by decide +kernel
theorem dX5_add_64 : decode cX5_add 64 = .ok (.aload_n 0, 1) := by decide +kernel
theorem dX5_add_65 : decode cX5_add 65 = .ok (.getfield 30, 3) := by decide +kernel
theorem dX5_add_68 : decode cX5_add 68 = .ok (.iload 6, 2) := by decide +kernel
theorem dX5_add_70 : decode cX5_add 70 = .ok (.iastore, 1) := by decide +kernel
theorem dX5_add_71 : decode cX5_add 71 = .ok (.aload_n 0, 1) := by decide +kernel
theorem dX5_add_72 : decode cX5_add 72 = .ok (.dup, 1) := by decide +kernel
theorem dX5_add_73 : decode cX5_add 73 = .ok (.getfield 30, 3) := by decide +kernel
theorem dX5_add_76 : decode cX5_add 76 = .ok (.iconst 1, 1) := by decide +kernel
theorem dX5_add_77 : decode cX5_add 77 = .ok (.iadd, 1) := by decide +kernel
theorem dX5_add_78 : decode cX5_add 78 = .ok (.putfield 30, 3) := by decide +kernel
theorem dX5_add_81 : decode cX5_add 81 = .ok (.return_, 1) := by decide +kernel
theorem dX5_move_0 : decode cX5_move 0 = .ok (.aload_n 0, 1) := by decide +kernel
theorem dX5_move_1 : decode cX5_move 1 = .ok (.getfield 11, 3) := by decide +kernel
theorem dX5_move_4 : decode cX5_move 4 = .ok (.iload_n 2, 1) := by decide +kernel
theorem dX5_move_5 : decode cX5_move 5 = .ok (.aload_n 0, 1) := by decide +kernel
theorem dX5_move_6 : decode cX5_move 6 = .ok (.getfield 11, 3) := by decide +kernel
theorem dX5_move_9 : decode cX5_move 9 = .ok (.iload_n 1, 1) := by decide +kernel
theorem dX5_move_10 : decode cX5_move 10 = .ok (.iaload, 1) := by decide +kernel
theorem dX5_move_11 : decode cX5_move 11 = .ok (.iastore, 1) := by decide +kernel
theorem dX5_move_12 : decode cX5_move 12 = .ok (.aload_n 0, 1) := by decide +kernel
theorem dX5_move_13 : decode cX5_move 13 = .ok (.getfield 15, 3) := by decide +kernel
theorem dX5_move_16 : decode cX5_move 16 = .ok (.iload_n 2, 1) := by decide +kernel
theorem dX5_move_17 : decode cX5_move 17 = .ok (.aload_n 0, 1) := by decide +kernel
theorem dX5_move_18 : decode cX5_move 18 = .ok (.getfield 15, 3) := by decide +kernel
theorem dX5_move_21 : decode cX5_move 21 = .ok (.iload_n 1, 1) := by decide +kernel
theorem dX5_move_22 : decode cX5_move 22 = .ok (.iaload, 1) := by decide +kernel
theorem dX5_move_23 : decode cX5_move 23 = .ok (.iastore, 1) := by decide +kernel
theorem dX5_move_24 : decode cX5_move 24 = .ok (.aload_n 0, 1) := by decide +kernel
theorem dX5_move_25 : decode cX5_move 25 = .ok (.getfield 18, 3) := by decide +kernel
theorem dX5_move_28 : decode cX5_move 28 = .ok (.iload_n 2, 1) := by decide +kernel
theorem dX5_move_29 : decode cX5_move 29 = .ok (.aload_n 0, 1) := by decide +kernel
theorem dX5_move_30 : decode cX5_move 30 = .ok (.getfield 18, 3) := by decide +kernel
theorem dX5_move_33 : decode cX5_move 33 = .ok (.iload_n 1, 1) := by decide +kernel
theorem dX5_move_34 : decode cX5_move 34 = .ok (.iaload, 1) := by decide +kernel
theorem dX5_move_35 : decode cX5_move 35 = .ok (.iastore, 1) := by decide +kernel
theorem dX5_move_36 : decode cX5_move 36 = .ok (.aload_n 0, 1) := by decide +kernel
theorem dX5_move_37 : decode cX5_move 37 = .ok (.getfield 21, 3) := by decide +kernel
theorem dX5_move_40 : decode cX5_move 40 = .ok (.iload_n 2, 1) := by decide +kernel
theorem dX5_move_41 : decode cX5_move 41 = .ok (.aload_n 0, 1) := by decide +kernel
theorem dX5_move_42 : decode cX5_move 42 = .ok (.getfield 21, 3) := by decide +kernel
theorem dX5_move_45 : decode cX5_move 45 = .ok (.iload_n 1, 1) := by decide +kernel
theorem dX5_move_46 : decode cX5_move 46 = .ok (.iaload, 1) := by decide +kernel
theorem dX5_move_47 : decode cX5_move 47 = .ok (.iastore, 1) := by decide +kernel
theorem dX5_move_48 : decode cX5_move 48 = .ok (.aload_n 0, 1) := by decide +kernel
theorem dX5_move_49 : decode cX5_move 49 = .ok (.getfield 24, 3) := by decide +kernel
theorem dX5_move_52 : decode cX5_move 52 = .ok (.iload_n 2, 1) := by decide +kernel
theorem dX5_move_53 : decode cX5_move 53 = .ok (.aload_n 0, 1) := by decide +kernel
theorem dX5_move_54 : decode cX5_move 54 = .ok (.getfield 24, 3) := by decide +kernel
theorem dX5_move_57 : decode cX5_move 57 = .ok (.iload_n 1, 1) := by decide +kernel
theorem dX5_move_58 : decode cX5_move 58 = .ok (.iaload, 1) := by decide +kernel
theorem dX5_move_59 : decode cX5_move 59 = .ok (.iastore, 1) := by decide +kernel
theorem dX5_move_60 : decode cX5_move 60 = .ok (.aload_n 0, 1) := by decide +kernel
theorem dX5_move_61 : decode cX5_move 61 = .ok (.getfield 27, 3) := by decide +kernel
theorem dX5_move_64 : decode cX5_move 64 = .ok (.iload_n 2, 1) := by decide +kernel
theorem dX5_move_65 : decode cX5_move 65 = .ok (.aload_n 0, 1) := by decide +kernel
theorem dX5_move_66 : decode cX5_move 66 = .ok (.getfield 27, 3) := by decide +kernel
theorem dX5_move_69 : decode cX5_move 69 = .ok (.iload_n 1, 1) := by decide +kernel
theorem dX5_move_70 : decode cX5_move 70 = .ok (.iaload, 1) := by decide +kernel
theorem dX5_move_71 : decode cX5_move 71 = .ok (.iastore, 1) := by decide +kernel
theorem dX5_move_72 : decode cX5_move 72 = .ok (.return_, 1) := by decide +kernel
theorem dX5_firstGiver_0 : decode cX5_firstGiver 0 = .ok (.iconst 0, 1) := by decide +kernel
theorem dX5_firstGiver_1 : decode cX5_firstGiver 1 = .ok (.istore_n 3, 1) := by decide +kernel
theorem dX5_firstGiver_2 : decode cX5_firstGiver 2 = .ok (.iload_n 3, 1) := by decide +kernel
theorem dX5_firstGiver_3 : decode cX5_firstGiver 3 = .ok (.aload_n 0, 1) := by decide +kernel
theorem dX5_firstGiver_4 : decode cX5_firstGiver 4 = .ok (.getfield 30, 3) := by decide +kernel
theorem dX5_firstGiver_7 : decode cX5_firstGiver 7 = .ok (.if_icmp .ge 36, 3) := by decide +kernel
theorem dX5_firstGiver_10 : decode cX5_firstGiver 10 = .ok (.aload_n 0, 1) := by decide +kernel
theorem dX5_firstGiver_11 : decode cX5_firstGiver 11 = .ok (.getfield 15, 3) := by decide +kernel
theorem dX5_firstGiver_14 : decode cX5_firstGiver 14 = .ok (.iload_n 3, 1) := by decide +kernel
theorem dX5_firstGiver_15 : decode cX5_firstGiver 15 = .ok (.iaload, 1) := by decide +kernel
theorem dX5_firstGiver_16 : decode cX5_firstGiver 16 = .ok (.iload_n 1, 1) := by decide +kernel
theorem dX5_firstGiver_17 : decode cX5_firstGiver 17 = .ok (.if_icmp .ne 20, 3) := by decide +kernel
theorem dX5_firstGiver_20 : decode cX5_firstGiver 20 = .ok (.aload_n 0, 1) := by decide +kernel
theorem dX5_firstGiver_21 : decode cX5_firstGiver 21 = .ok (.getfield 18, 3) := by decide +kernel
theorem dX5_firstGiver_24 : decode cX5_firstGiver 24 = .ok (.iload_n 3, 1) := by decide +kernel
theorem dX5_firstGiver_25 : decode cX5_firstGiver 25 = .ok (.iaload, 1) := by decide +kernel
theorem dX5_firstGiver_26 : decode cX5_firstGiver 26 = .ok (.iload_n 2, 1) := by decide +kernel
theorem dX5_firstGiver_27 : decode cX5_firstGiver 27 = .ok (.if_icmp .ne 10, 3) := by decide +kernel
theorem dX5_firstGiver_30 : decode cX5_firstGiver 30 = .ok (.aload_n 0, 1) := by decide +kernel
theorem dX5_firstGiver_31 : decode cX5_firstGiver 31 = .ok (.getfield 11, 3) := by decide +kernel
theorem dX5_firstGiver_34 : decode cX5_firstGiver 34 = .ok (.iload_n 3, 1) := by decide +kernel
theorem dX5_firstGiver_35 : decode cX5_firstGiver 35 = .ok (.iaload, 1) := by decide +kernel
theorem dX5_firstGiver_36 : decode cX5_firstGiver 36 = .ok (.ireturn, 1) := by decide +kernel
theorem dX5_firstGiver_37 : decode cX5_firstGiver 37 = .ok (.iinc 3 1, 3) := by decide +kernel
theorem dX5_firstGiver_40 : decode cX5_firstGiver 40 = .ok (.goto (-38), 3) := by decide +kernel
theorem dX5_firstGiver_43 : decode cX5_firstGiver 43 = .ok (.iconst (-1), 1) := by decide +kernel
theorem dX5_firstGiver_44 : decode cX5_firstGiver 44 = .ok (.ireturn, 1) := by decide +kernel
theorem dX5_firstGiverOf_0 : decode cX5_firstGiverOf 0 = .ok (.iconst 0, 1) := by decide +kernel
theorem dX5_firstGiverOf_1 : decode cX5_firstGiverOf 1 = .ok (.istore 4, 2) := by decide +kernel
theorem dX5_firstGiverOf_3 : decode cX5_firstGiverOf 3 = .ok (.iload 4, 2) := by decide +kernel
theorem dX5_firstGiverOf_5 : decode cX5_firstGiverOf 5 = .ok (.aload_n 0, 1) := by decide +kernel
theorem dX5_firstGiverOf_6 : decode cX5_firstGiverOf 6 = .ok (.getfield 30, 3) := by decide +kernel
theorem dX5_firstGiverOf_9 : decode cX5_firstGiverOf 9 = .ok (.if_icmp .ge 50, 3) := by decide +kernel
theorem dX5_firstGiverOf_12 : decode cX5_firstGiverOf 12 = .ok (.aload_n 0, 1) := by decide +kernel
theorem dX5_firstGiverOf_13 : decode cX5_firstGiverOf 13 = .ok (.getfield 15, 3) := by decide +kernel
theorem dX5_firstGiverOf_16 : decode cX5_firstGiverOf 16 = .ok (.iload 4, 2) := by decide +kernel
theorem dX5_firstGiverOf_18 : decode cX5_firstGiverOf 18 = .ok (.iaload, 1) := by decide +kernel
theorem dX5_firstGiverOf_19 : decode cX5_firstGiverOf 19 = .ok (.iload_n 1, 1) := by decide +kernel
theorem dX5_firstGiverOf_20 : decode cX5_firstGiverOf 20 = .ok (.if_icmp .ne 33, 3) := by decide +kernel
theorem dX5_firstGiverOf_23 : decode cX5_firstGiverOf 23 = .ok (.aload_n 0, 1) := by decide +kernel
theorem dX5_firstGiverOf_24 : decode cX5_firstGiverOf 24 = .ok (.getfield 18, 3) := by decide +kernel
theorem dX5_firstGiverOf_27 : decode cX5_firstGiverOf 27 = .ok (.iload 4, 2) := by decide +kernel
theorem dX5_firstGiverOf_29 : decode cX5_firstGiverOf 29 = .ok (.iaload, 1) := by decide +kernel
theorem dX5_firstGiverOf_30 : decode cX5_firstGiverOf 30 = .ok (.iload_n 2, 1) := by decide +kernel
theorem dX5_firstGiverOf_31 : decode cX5_firstGiverOf 31 = .ok (.if_icmp .ne 22, 3) := by decide +kernel
theorem dX5_firstGiverOf_34 : decode cX5_firstGiverOf 34 = .ok (.aload_n 0, 1) := by decide +kernel
theorem dX5_firstGiverOf_35 : decode cX5_firstGiverOf 35 = .ok (.getfield 21, 3) := by decide +kernel
theorem dX5_firstGiverOf_38 : decode cX5_firstGiverOf 38 = .ok (.iload 4, 2) := by decide +kernel
theorem dX5_firstGiverOf_40 : decode cX5_firstGiverOf 40 = .ok (.iaload, 1) := by decide +kernel
theorem dX5_firstGiverOf_41 : decode cX5_firstGiverOf 41 = .ok (.iload_n 3, 1) := by decide +kernel
theorem dX5_firstGiverOf_42 : decode cX5_firstGiverOf 42 = .ok (.if_icmp .ne 11, 3) := by decide +kernel
theorem dX5_firstGiverOf_45 : decode cX5_firstGiverOf 45 = .ok (.aload_n 0, 1) := by decide +kernel
theorem dX5_firstGiverOf_46 : decode cX5_firstGiverOf 46 = .ok (.getfield 11, 3) := by decide +kernel
theorem dX5_firstGiverOf_49 : decode cX5_firstGiverOf 49 = .ok (.iload 4, 2) := by decide +kernel
theorem dX5_firstGiverOf_51 : decode cX5_firstGiverOf 51 = .ok (.iaload, 1) := by decide +kernel
theorem dX5_firstGiverOf_52 : decode cX5_firstGiverOf 52 = .ok (.ireturn, 1) := by decide +kernel
theorem dX5_firstGiverOf_53 : decode cX5_firstGiverOf 53 = .ok (.iinc 4 1, 3) := by decide +kernel
theorem dX5_firstGiverOf_56 : decode cX5_firstGiverOf 56 = .ok (.goto (-53), 3) := by decide +kernel
theorem dX5_firstGiverOf_59 : decode cX5_firstGiverOf 59 = .ok (.iconst (-1), 1) := by decide +kernel
theorem dX5_firstGiverOf_60 : decode cX5_firstGiverOf 60 = .ok (.ireturn, 1) := by decide +kernel
theorem dX6_init_0 : decode cX6_init 0 = .ok (.aload_n 0, 1) := by decide +kernel
theorem dX6_init_1 : decode cX6_init 1 = .ok (.invokespecial 3, 3) := by decide +kernel
theorem dX6_init_4 : decode cX6_init 4 = .ok (.aload_n 0, 1) := by decide +kernel
theorem dX6_init_5 : decode cX6_init 5 = .ok (.bipush 96, 2) := by decide +kernel
theorem dX6_init_7 : decode cX6_init 7 = .ok (.newarray .int, 2) := by decide +kernel
theorem dX6_init_9 : decode cX6_init 9 = .ok (.putfield 9, 3) := by decide +kernel
theorem dX6_init_12 : decode cX6_init 12 = .ok (.aload_n 0, 1) := by decide +kernel
theorem dX6_init_13 : decode cX6_init 13 = .ok (.bipush 96, 2) := by decide +kernel
theorem dX6_init_15 : decode cX6_init 15 = .ok (.newarray .int, 2) := by decide +kernel
theorem dX6_init_17 : decode cX6_init 17 = .ok (.putfield 15, 3) := by decide +kernel
theorem dX6_init_20 : decode cX6_init 20 = .ok (.aload_n 0, 1) := by decide +kernel
theorem dX6_init_21 : decode cX6_init 21 = .ok (.bipush 96, 2) := by decide +kernel
theorem dX6_init_23 : decode cX6_init 23 = .ok (.newarray .int, 2) := by decide +kernel
theorem dX6_init_25 : decode cX6_init 25 = .ok (.putfield 18, 3) := by decide +kernel
theorem dX6_init_28 : decode cX6_init 28 = .ok (.iconst 0, 1) := by decide +kernel
theorem dX6_init_29 : decode cX6_init 29 = .ok (.istore_n 1, 1) := by decide +kernel
theorem dX6_init_30 : decode cX6_init 30 = .ok (.iload_n 1, 1) := by decide +kernel
theorem dX6_init_31 : decode cX6_init 31 = .ok (.aload_n 0, 1) := by decide +kernel
theorem dX6_init_32 : decode cX6_init 32 = .ok (.getfield 9, 3) := by decide +kernel
theorem dX6_init_35 : decode cX6_init 35 = .ok (.arraylength, 1) := by decide +kernel
theorem dX6_init_36 : decode cX6_init 36 = .ok (.if_icmp .ge 16, 3) := by decide +kernel
theorem dX6_init_39 : decode cX6_init 39 = .ok (.aload_n 0, 1) := by decide +kernel
theorem dX6_init_40 : decode cX6_init 40 = .ok (.getfield 9, 3) := by decide +kernel
theorem dX6_init_43 : decode cX6_init 43 = .ok (.iload_n 1, 1) := by decide +kernel
theorem dX6_init_44 : decode cX6_init 44 = .ok (.iconst (-1), 1) := by decide +kernel
theorem dX6_init_45 : decode cX6_init 45 = .ok (.iastore, 1) := by decide +kernel
theorem dX6_init_46 : decode cX6_init 46 = .ok (.iinc 1 1, 3) := by decide +kernel
theorem dX6_init_49 : decode cX6_init 49 = .ok (.goto (-19), 3) := by decide +kernel
theorem dX6_init_52 : decode cX6_init 52 = .ok (.return_, 1) := by decide +kernel
set_option maxRecDepth 20000 in
theorem ggX6_fillFrom_X9_place : GoodIn wsX6_fillFrom wsX9_place := goodIn_r _ [7] (by decide +kernel) (by decide +kernel)
set_option maxRecDepth 20000 in
theorem gX6_fillFrom_X9_place_n30 : GoodIn wsX6_fillFrom (wsX9_place) := ggX6_fillFrom_X9_place
set_option maxRecDepth 20000 in
theorem ggX6_fillFrom_X8_valueOf : GoodIn wsX6_fillFrom wsX8_valueOf := goodIn_r _ [12, 13, 14, 20, 21, 22] (by decide +kernel) (by decide +kernel)
set_option maxRecDepth 20000 in
theorem gX6_fillFrom_X8_valueOf : GoodIn wsX6_fillFrom (wsV RX6 34 RX8 yX8_valueOf wsX8_valueOf) := goodIn_app (goodIn_of _ (by decide +kernel)) ggX6_fillFrom_X8_valueOf
set_option maxRecDepth 20000 in
theorem ggX6_fillFrom_X8_allPieces : GoodIn wsX6_fillFrom wsX8_allPieces := goodIn_r _ [18, 19, 20, 21, 22] (by decide +kernel) (by decide +kernel)
set_option maxRecDepth 20000 in
theorem gX6_fillFrom_X8_allPieces : GoodIn wsX6_fillFrom (wsV RX6 37 RX8 yX8_allPieces wsX8_allPieces) := goodIn_app (goodIn_of _ (by decide +kernel)) ggX6_fillFrom_X8_allPieces
theorem dX6_fillFrom_0 : decode cX6_fillFrom 0 = .ok (.iconst 0, 1) := by decide +kernel
theorem dX6_fillFrom_1 : decode cX6_fillFrom 1 = .ok (.istore_n 2, 1) := by decide +kernel
theorem dX6_fillFrom_2 : decode cX6_fillFrom 2 = .ok (.iload_n 2, 1) := by decide +kernel
theorem dX6_fillFrom_3 : decode cX6_fillFrom 3 = .ok (.aload_n 1, 1) := by decide +kernel
theorem dX6_fillFrom_4 : decode cX6_fillFrom 4 = .ok (.getfield 21, 3) := by decide +kernel
theorem dX6_fillFrom_7 : decode cX6_fillFrom 7 = .ok (.if_icmp .ge 41, 3) := by decide +kernel
theorem dX6_fillFrom_10 : decode cX6_fillFrom 10 = .ok (.iconst 0, 1) := by decide +kernel
theorem dX6_fillFrom_11 : decode cX6_fillFrom 11 = .ok (.istore_n 3, 1) := by decide +kernel
theorem dX6_fillFrom_12 : decode cX6_fillFrom 12 = .ok (.iload_n 3, 1) := by decide +kernel
theorem dX6_fillFrom_13 : decode cX6_fillFrom 13 = .ok (.aload_n 1, 1) := by decide +kernel
theorem dX6_fillFrom_14 : decode cX6_fillFrom 14 = .ok (.getfield 27, 3) := by decide +kernel
theorem dX6_fillFrom_17 : decode cX6_fillFrom 17 = .ok (.if_icmp .ge 25, 3) := by decide +kernel
theorem dX6_fillFrom_20 : decode cX6_fillFrom 20 = .ok (.aload_n 0, 1) := by decide +kernel
theorem dX6_fillFrom_21 : decode cX6_fillFrom 21 = .ok (.getfield 15, 3) := by decide +kernel
theorem dX6_fillFrom_24 : decode cX6_fillFrom 24 = .ok (.iload_n 2, 1) := by decide +kernel
theorem dX6_fillFrom_25 : decode cX6_fillFrom 25 = .ok (.iload_n 3, 1) := by decide +kernel
theorem dX6_fillFrom_26 : decode cX6_fillFrom 26 = .ok (.invokestatic 30, 3) := by decide +kernel
theorem dX6_fillFrom_29 : decode cX6_fillFrom 29 = .ok (.aload_n 1, 1) := by decide +kernel
theorem dX6_fillFrom_30 : decode cX6_fillFrom 30 = .ok (.iload_n 2, 1) := by decide +kernel
theorem dX6_fillFrom_31 : decode cX6_fillFrom 31 = .ok (.iload_n 3, 1) := by decide +kernel
theorem dX6_fillFrom_32 : decode cX6_fillFrom 32 = .ok (.invokevirtual 34, 3) := by decide +kernel
theorem dX6_fillFrom_35 : decode cX6_fillFrom 35 = .ok (.iastore, 1) := by decide +kernel
theorem dX6_fillFrom_36 : decode cX6_fillFrom 36 = .ok (.iinc 3 1, 3) := by decide +kernel
theorem dX6_fillFrom_39 : decode cX6_fillFrom 39 = .ok (.goto (-27), 3) := by decide +kernel
theorem dX6_fillFrom_42 : decode cX6_fillFrom 42 = .ok (.iinc 2 1, 3) := by decide +kernel
theorem dX6_fillFrom_45 : decode cX6_fillFrom 45 = .ok (.goto (-43), 3) := by decide +kernel
theorem dX6_fillFrom_48 : decode cX6_fillFrom 48 = .ok (.aload_n 0, 1) := by decide +kernel
theorem dX6_fillFrom_49 : decode cX6_fillFrom 49 = .ok (.aload_n 1, 1) := by decide +kernel
theorem dX6_fillFrom_50 : decode cX6_fillFrom 50 = .ok (.invokevirtual 37, 3) := by decide +kernel
theorem dX6_fillFrom_53 : decode cX6_fillFrom 53 = .ok (.putfield 41, 3) := by decide +kernel
theorem dX6_fillFrom_56 : decode cX6_fillFrom 56 = .ok (.return_, 1) := by decide +kernel
set_option maxRecDepth 20000 in
theorem ggX6_holds_X9_isIn : GoodIn wsX6_holds wsX9_isIn := goodIn_r _ [5] (by decide +kernel) (by decide +kernel)
set_option maxRecDepth 20000 in
theorem gX6_holds_X9_isIn_n44 : GoodIn wsX6_holds (wsX9_isIn) := ggX6_holds_X9_isIn
set_option maxRecDepth 20000 in
theorem ggX6_holds_X9_place : GoodIn wsX6_holds wsX9_place := goodIn_r _ [7] (by decide +kernel) (by decide +kernel)
set_option maxRecDepth 20000 in
theorem gX6_holds_X9_place_n30 : GoodIn wsX6_holds (wsX9_place) := ggX6_holds_X9_place
