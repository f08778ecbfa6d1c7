theorem dX0_init_0 : decode cX0_init 0 = .ok (.aload_n 0, 1) := by decide +kernel
theorem dX0_init_1 : decode cX0_init 1 = .ok (.invokespecial 1, 3) := by decide +kernel
theorem dX0_init_4 : decode cX0_init 4 = .ok (.aload_n 0, 1) := by decide +kernel
theorem dX0_init_5 : decode cX0_init 5 = .ok (.aload_n 1, 1) := by decide +kernel
theorem dX0_init_6 : decode cX0_init 6 = .ok (.putfield 7, 3) := by decide +kernel
theorem dX0_init_9 : decode cX0_init 9 = .ok (.return_, 1) := by decide +kernel
set_option maxRecDepth 20000 in
theorem ggX0_takeDue_X0_take : GoodIn wsX0_takeDue wsX0_take := goodIn_r _ [15, 1, 16, 17, 18, 19, 20, 21, 22, 23, 24, 25, 26, 27, 28, 29, 30, 31, 32, 33, 34, 35, 36, 14, 37, 38, 39, 40, 41, 42, 43, 44, 45, 46, 47, 48, 49, 50, 51, 52, 53, 54, 55, 56, 57, 58, 59, 60, 61, 62, 63, 64, 65, 66, 67, 68, 69, 70, 71, 72, 73, 74, 75, 76, 77, 78, 79, 80, 81, 82, 83, 84, 85, 86, 5, 87, 88, 89, 90, 91, 92, 93, 94, 95, 96, 97, 98, 99, 100, 101, 102, 103, 104, 105, 106, 107, 108, 109, 110, 122, 123, 124, 125, 126, 127, 128, 129, 130, 138, 139, 140, 141, 142, 143, 144, 145, 146, 147, 148, 149, 150, 151, 152, 153, 154, 155, 156, 157, 158, 159, 160, 161, 162, 163, 164, 165, 166, 167, 168, 169] (by decide +kernel) (by decide +kernel)
set_option maxRecDepth 20000 in
theorem gX0_takeDue_X0_take : GoodIn wsX0_takeDue (wsV RX0 47 RX0 yX0_take wsX0_take) := goodIn_app (goodIn_of _ (by decide +kernel)) ggX0_takeDue_X0_take
set_option maxRecDepth 20000 in
theorem ggX0_takeDue_X5_move : GoodIn wsX0_takeDue wsX5_move := goodIn_r _ [115, 116, 117, 118, 119, 120, 121, 131, 132, 133, 134, 135, 136, 137] (by decide +kernel) (by decide +kernel)
set_option maxRecDepth 20000 in
theorem gX0_takeDue_X5_move : GoodIn wsX0_takeDue (wsV RX0 51 RX5 yX5_move wsX5_move) := goodIn_app (goodIn_of _ (by decide +kernel)) ggX0_takeDue_X5_move
theorem dX0_takeDue_0 : decode cX0_takeDue 0 = .ok (.aload_n 0, 1) := by decide +kernel
theorem dX0_takeDue_1 : decode cX0_takeDue 1 = .ok (.getfield 7, 3) := by decide +kernel
theorem dX0_takeDue_4 : decode cX0_takeDue 4 = .ok (.getfield 13, 3) := by decide +kernel
theorem dX0_takeDue_7 : decode cX0_takeDue 7 = .ok (.astore_n 1, 1) := by decide +kernel
theorem dX0_takeDue_8 : decode cX0_takeDue 8 = .ok (.iconst 0, 1) := by decide +kernel
theorem dX0_takeDue_9 : decode cX0_takeDue 9 = .ok (.istore_n 2, 1) := by decide +kernel
theorem dX0_takeDue_10 : decode cX0_takeDue 10 = .ok (.iconst 0, 1) := by decide +kernel
theorem dX0_takeDue_11 : decode cX0_takeDue 11 = .ok (.istore_n 3, 1) := by decide +kernel
theorem dX0_takeDue_12 : decode cX0_takeDue 12 = .ok (.iload_n 3, 1) := by decide +kernel
theorem dX0_takeDue_13 : decode cX0_takeDue 13 = .ok (.aload_n 1, 1) := by decide +kernel
theorem dX0_takeDue_14 : decode cX0_takeDue 14 = .ok (.getfield 19, 3) := by decide +kernel
theorem dX0_takeDue_17 : decode cX0_takeDue 17 = .ok (.if_icmp .ge 71, 3) := by decide +kernel
theorem dX0_takeDue_20 : decode cX0_takeDue 20 = .ok (.aload_n 1, 1) := by decide +kernel
theorem dX0_takeDue_21 : decode cX0_takeDue 21 = .ok (.getfield 25, 3) := by decide +kernel
theorem dX0_takeDue_24 : decode cX0_takeDue 24 = .ok (.iload_n 3, 1) := by decide +kernel
theorem dX0_takeDue_25 : decode cX0_takeDue 25 = .ok (.iaload, 1) := by decide +kernel
theorem dX0_takeDue_26 : decode cX0_takeDue 26 = .ok (.aload_n 0, 1) := by decide +kernel
theorem dX0_takeDue_27 : decode cX0_takeDue 27 = .ok (.getfield 7, 3) := by decide +kernel
theorem dX0_takeDue_30 : decode cX0_takeDue 30 = .ok (.getfield 29, 3) := by decide +kernel
theorem dX0_takeDue_33 : decode cX0_takeDue 33 = .ok (.if_icmp .gt 40, 3) := by decide +kernel
theorem dX0_takeDue_36 : decode cX0_takeDue 36 = .ok (.aload_n 0, 1) := by decide +kernel
theorem dX0_takeDue_37 : decode cX0_takeDue 37 = .ok (.aload_n 1, 1) := by decide +kernel
theorem dX0_takeDue_38 : decode cX0_takeDue 38 = .ok (.getfield 32, 3) := by decide +kernel
theorem dX0_takeDue_41 : decode cX0_takeDue 41 = .ok (.iload_n 3, 1) := by decide +kernel
theorem dX0_takeDue_42 : decode cX0_takeDue 42 = .ok (.iaload, 1) := by decide +kernel
theorem dX0_takeDue_43 : decode cX0_takeDue 43 = .ok (.aload_n 1, 1) := by decide +kernel
theorem dX0_takeDue_44 : decode cX0_takeDue 44 = .ok (.getfield 35, 3) := by decide +kernel
theorem dX0_takeDue_47 : decode cX0_takeDue 47 = .ok (.iload_n 3, 1) := by decide +kernel
theorem dX0_takeDue_48 : decode cX0_takeDue 48 = .ok (.iaload, 1) := by decide +kernel
theorem dX0_takeDue_49 : decode cX0_takeDue 49 = .ok (.aload_n 1, 1) := by decide +kernel
theorem dX0_takeDue_50 : decode cX0_takeDue 50 = .ok (.getfield 38, 3) := by decide +kernel
theorem dX0_takeDue_53 : decode cX0_takeDue 53 = .ok (.iload_n 3, 1) := by decide +kernel
theorem dX0_takeDue_54 : decode cX0_takeDue 54 = .ok (.iaload, 1) := by decide +kernel
theorem dX0_takeDue_55 : decode cX0_takeDue 55 = .ok (.aload_n 1, 1) := by decide +kernel
theorem dX0_takeDue_56 : decode cX0_takeDue 56 = .ok (.getfield 41, 3) := by decide +kernel
theorem dX0_takeDue_59 : decode cX0_takeDue 59 = .ok (.iload_n 3, 1) := by decide +kernel
theorem dX0_takeDue_60 : decode cX0_takeDue 60 = .ok (.iaload, 1) := by decide +kernel
theorem dX0_takeDue_61 : decode cX0_takeDue 61 = .ok (.aload_n 1, 1) := by decide +kernel
theorem dX0_takeDue_62 : decode cX0_takeDue 62 = .ok (.getfield 44, 3) := by decide +kernel
theorem dX0_takeDue_65 : decode cX0_takeDue 65 = .ok (.iload_n 3, 1) := by decide +kernel
theorem dX0_takeDue_66 : decode cX0_takeDue 66 = .ok (.iaload, 1) := by decide +kernel
theorem dX0_takeDue_67 : decode cX0_takeDue 67 = .ok (.invokevirtual 47, 3) := by decide +kernel
theorem dX0_takeDue_70 : decode cX0_takeDue 70 = .ok (.goto 12, 3) := by decide +kernel
theorem dX0_takeDue_73 : decode cX0_takeDue 73 = .ok (.aload_n 1, 1) := by decide +kernel
theorem dX0_takeDue_74 : decode cX0_takeDue 74 = .ok (.iload_n 3, 1) := by decide +kernel
theorem dX0_takeDue_75 : decode cX0_takeDue 75 = .ok (.iload_n 2, 1) := by decide +kernel
theorem dX0_takeDue_76 : decode cX0_takeDue 76 = .ok (.invokevirtual 51, 3) := by decide +kernel
theorem dX0_takeDue_79 : decode cX0_takeDue 79 = .ok (.iinc 2 1, 3) := by decide +kernel
theorem dX0_takeDue_82 : decode cX0_takeDue 82 = .ok (.iinc 3 1, 3) := by decide +kernel
theorem dX0_takeDue_85 : decode cX0_takeDue 85 = .ok (.goto (-73), 3) := by decide +kernel
theorem dX0_takeDue_88 : decode cX0_takeDue 88 = .ok (.aload_n 1, 1) := by decide +kernel
theorem dX0_takeDue_89 : decode cX0_takeDue 89 = .ok (.iload_n 2, 1) := by decide +kernel
theorem dX0_takeDue_90 : decode cX0_takeDue 90 = .ok (.putfield 19, 3) := by decide +kernel
theorem dX0_takeDue_93 : decode cX0_takeDue 93 = .ok (.return_, 1) := by decide +kernel
set_option maxRecDepth 20000 in
theorem ggX0_take_X6_expectNoMore : GoodIn wsX0_take wsX6_expectNoMore := goodIn_r _ [14, 15, 16, 17, 18, 19, 134, 135, 136, 137, 138, 139] (by decide +kernel) (by decide +kernel)
set_option maxRecDepth 20000 in
theorem gX0_take_X6_expectNoMore : GoodIn wsX0_take (wsV RX0 65 RX6 yX6_expectNoMore wsX6_expectNoMore) := goodIn_app (goodIn_of _ (by decide +kernel)) ggX0_take_X6_expectNoMore
set_option maxRecDepth 20000 in
theorem ggX0_take_X0_isSpare : GoodIn wsX0_take wsX0_isSpare := goodIn_r _ [24, 25, 26, 27, 18, 28, 29, 30, 31, 13, 32, 33, 34, 17, 19, 35, 36, 37, 38, 134, 135, 136, 137, 138, 139] (by decide +kernel) (by decide +kernel)
set_option maxRecDepth 20000 in
theorem gX0_take_X0_isSpare : GoodIn wsX0_take (wsV RX0 82 RX0 yX0_isSpare wsX0_isSpare) := goodIn_app (goodIn_of _ (by decide +kernel)) ggX0_take_X0_isSpare
set_option maxRecDepth 20000 in
theorem ggX0_take_X6_put : GoodIn wsX0_take wsX6_put := goodIn_r _ [42, 34, 43, 17, 18, 19, 134, 135, 136, 137, 138, 139] (by decide +kernel) (by decide +kernel)
set_option maxRecDepth 20000 in
theorem gX0_take_X6_put : GoodIn wsX0_take (wsV RX0 89 RX6 yX6_put wsX6_put) := goodIn_app (goodIn_of _ (by decide +kernel)) ggX0_take_X6_put
set_option maxRecDepth 20000 in
theorem ggX0_take_X6_heldOf : GoodIn wsX0_take wsX6_heldOf := goodIn_r _ [47, 48, 30, 31, 13, 32, 33, 34, 27, 18, 28, 17, 19, 49, 50, 134, 135, 136, 137, 138, 139] (by decide +kernel) (by decide +kernel)
set_option maxRecDepth 20000 in
theorem gX0_take_X6_heldOf : GoodIn wsX0_take (wsV RX0 93 RX6 yX6_heldOf wsX6_heldOf) := goodIn_app (goodIn_of _ (by decide +kernel)) ggX0_take_X6_heldOf
set_option maxRecDepth 20000 in
theorem ggX0_take_X6_sumOf : GoodIn wsX0_take wsX6_sumOf := goodIn_r _ [54, 43, 17, 18, 19, 55, 56, 57, 134, 135, 136, 137, 138, 139] (by decide +kernel) (by decide +kernel)
set_option maxRecDepth 20000 in
theorem gX0_take_X6_sumOf : GoodIn wsX0_take (wsV RX0 105 RX6 yX6_sumOf wsX6_sumOf) := goodIn_app (goodIn_of _ (by decide +kernel)) ggX0_take_X6_sumOf
set_option maxRecDepth 20000 in
theorem ggX0_take_X8_sumOf : GoodIn wsX0_take wsX8_sumOf := goodIn_r _ [62, 63, 64, 65, 66, 61, 67, 68, 69, 55, 18, 56, 57, 131, 132, 133] (by decide +kernel) (by decide +kernel)
set_option maxRecDepth 20000 in
theorem gX0_take_X8_sumOf : GoodIn wsX0_take (wsV RX0 109 RX8 yX8_sumOf wsX8_sumOf) := goodIn_app (goodIn_of _ (by decide +kernel)) ggX0_take_X8_sumOf
set_option maxRecDepth 20000 in
theorem ggX0_take_X0_complete : GoodIn wsX0_take wsX0_complete := goodIn_r _ [73, 3, 25, 1, 8, 74, 75, 76, 77, 78, 61, 79, 80, 108, 109, 110, 111, 112, 113, 114, 115, 116, 117, 118, 119, 120, 134, 135, 136, 137, 138, 139, 99, 100, 101, 102, 103, 104, 105, 106, 107, 131, 132, 133] (by decide +kernel) (by decide +kernel)
set_option maxRecDepth 20000 in
theorem gX0_take_X0_complete : GoodIn wsX0_take (wsV RX0 111 RX0 yX0_complete wsX0_complete) := goodIn_app (goodIn_of _ (by decide +kernel)) ggX0_take_X0_complete
set_option maxRecDepth 20000 in
theorem ggX0_take_X0_fail : GoodIn wsX0_take wsX0_fail := goodIn_r _ [84, 1, 2, 3, 85, 5, 86, 26, 87, 35, 36, 37, 13, 38, 34, 17, 18, 19, 27, 28, 88, 89, 90, 23, 91, 92, 93, 94, 95, 96, 97, 98, 99, 100, 101, 102, 103, 104, 105, 106, 107, 108, 109, 110, 111, 112, 113, 114, 115, 116, 117, 118, 119, 120, 121, 122, 123, 124, 125, 126, 127, 128, 129, 130, 134, 135, 136, 137, 138, 139] (by decide +kernel) (by decide +kernel)
set_option maxRecDepth 20000 in
theorem gX0_take_X0_fail : GoodIn wsX0_take (wsV RX0 115 RX0 yX0_fail wsX0_fail) := goodIn_app (goodIn_of _ (by decide +kernel)) ggX0_take_X0_fail
theorem dX0_take_0 : decode cX0_take 0 = .ok (.aload_n 0, 1) := by decide +kernel
theorem dX0_take_1 : decode cX0_take 1 = .ok (.getfield 7, 3) := by decide +kernel
theorem dX0_take_4 : decode cX0_take 4 = .ok (.getfield 55, 3) := by decide +kernel
theorem dX0_take_7 : decode cX0_take 7 = .ok (.iload_n 1, 1) := by decide +kernel
theorem dX0_take_8 : decode cX0_take 8 = .ok (.aaload, 1) := by decide +kernel
theorem dX0_take_9 : decode cX0_take 9 = .ok (.astore 6, 2) := by decide +kernel
theorem dX0_take_11 : decode cX0_take 11 = .ok (.aload 6, 2) := by decide +kernel
theorem dX0_take_13 : decode cX0_take 13 = .ok (.getfield 59, 3) := by decide +kernel
theorem dX0_take_16 : decode cX0_take 16 = .ok (.astore 7, 2) := by decide +kernel
theorem dX0_take_18 : decode cX0_take 18 = .ok (.aload 7, 2) := by decide +kernel
theorem dX0_take_20 : decode cX0_take 20 = .ok (.iload_n 3, 1) := by decide +kernel
theorem dX0_take_21 : decode cX0_take 21 = .ok (.iload 4, 2) := by decide +kernel
theorem dX0_take_23 : decode cX0_take 23 = .ok (.invokevirtual 65, 3) := by decide +kernel
theorem dX0_take_26 : decode cX0_take 26 = .ok (.aload 6, 2) := by decide +kernel
theorem dX0_take_28 : decode cX0_take 28 = .ok (.dup, 1) := by decide +kernel
theorem dX0_take_29 : decode cX0_take 29 = .ok (.getfield 70, 3) := by decide +kernel
theorem dX0_take_32 : decode cX0_take 32 = .ok (.iconst 1, 1) := by decide +kernel
theorem dX0_take_33 : decode cX0_take 33 = .ok (.iadd, 1) := by decide +kernel
theorem dX0_take_34 : decode cX0_take 34 = .ok (.putfield 70, 3) := by decide +kernel
theorem dX0_take_37 : decode cX0_take 37 = .ok (.aload 6, 2) := by decide +kernel
theorem dX0_take_39 : decode cX0_take 39 = .ok (.getfield 73, 3) := by decide +kernel
theorem dX0_take_42 : decode cX0_take 42 = .ok (.getfield 77, 3) := by decide +kernel
theorem dX0_take_45 : decode cX0_take 45 = .ok (.iload_n 2, 1) := by decide +kernel
theorem dX0_take_46 : decode cX0_take 46 = .ok (.dup2, 1) := by decide +kernel
theorem dX0_take_47 : decode cX0_take 47 = .ok (.iaload, 1) := by decide +kernel
theorem dX0_take_48 : decode cX0_take 48 = .ok (.iconst 1, 1) := by decide +kernel
theorem dX0_take_49 : decode cX0_take 49 = .ok (.iadd, 1) := by decide +kernel
theorem dX0_take_50 : decode cX0_take 50 = .ok (.iastore, 1) := by decide +kernel
theorem dX0_take_51 : decode cX0_take 51 = .ok (.aload_n 0, 1) := by decide +kernel
theorem dX0_take_52 : decode cX0_take 52 = .ok (.aload 7, 2) := by decide +kernel
theorem dX0_take_54 : decode cX0_take 54 = .ok (.iload_n 2, 1) := by decide +kernel
theorem dX0_take_55 : decode cX0_take 55 = .ok (.iload_n 3, 1) := by decide +kernel
theorem dX0_take_56 : decode cX0_take 56 = .ok (.iload 4, 2) := by decide +kernel
theorem dX0_take_58 : decode cX0_take 58 = .ok (.invokevirtual 82, 3) := by decide +kernel
theorem dX0_take_61 : decode cX0_take 61 = .ok (.ifCond .eq 15, 3) := by decide +kernel
theorem dX0_take_64 : decode cX0_take 64 = .ok (.aload 6, 2) := by decide +kernel
theorem dX0_take_66 : decode cX0_take 66 = .ok (.dup, 1) := by decide +kernel
theorem dX0_take_67 : decode cX0_take 67 = .ok (.getfield 86, 3) := by decide +kernel
theorem dX0_take_70 : decode cX0_take 70 = .ok (.iconst 1, 1) := by decide +kernel
theorem dX0_take_71 : decode cX0_take 71 = .ok (.iadd, 1) := by decide +kernel
theorem dX0_take_72 : decode cX0_take 72 = .ok (.putfield 86, 3) := by decide +kernel
theorem dX0_take_75 : decode cX0_take 75 = .ok (.return_, 1) := by decide +kernel
theorem dX0_take_76 : decode cX0_take 76 = .ok (.aload 7, 2) := by decide +kernel
theorem dX0_take_78 : decode cX0_take 78 = .ok (.iload_n 3, 1) := by decide +kernel
theorem dX0_take_79 : decode cX0_take 79 = .ok (.iload 4, 2) := by decide +kernel
theorem dX0_take_81 : decode cX0_take 81 = .ok (.iload_n 2, 1) := by decide +kernel
theorem dX0_take_82 : decode cX0_take 82 = .ok (.iload 5, 2) := by decide +kernel
theorem dX0_take_84 : decode cX0_take 84 = .ok (.invokevirtual 89, 3) := by decide +kernel
theorem dX0_take_87 : decode cX0_take 87 = .ok (.aload 7, 2) := by decide +kernel
theorem dX0_take_89 : decode cX0_take 89 = .ok (.iload_n 3, 1) := by decide +kernel
theorem dX0_take_90 : decode cX0_take 90 = .ok (.invokevirtual 93, 3) := by decide +kernel
theorem dX0_take_93 : decode cX0_take 93 = .ok (.aload_n 0, 1) := by decide +kernel
theorem dX0_take_94 : decode cX0_take 94 = .ok (.getfield 7, 3) := by decide +kernel
theorem dX0_take_97 : decode cX0_take 97 = .ok (.getfield 97, 3) := by decide +kernel
theorem dX0_take_100 : decode cX0_take 100 = .ok (.getfield 101, 3) := by decide +kernel
theorem dX0_take_103 : decode cX0_take 103 = .ok (.if_icmp .ge 4, 3) := by decide +kernel
theorem dX0_take_106 : decode cX0_take 106 = .ok (.return_, 1) := by decide +kernel
theorem dX0_take_107 : decode cX0_take 107 = .ok (.aload 7, 2) := by decide +kernel
theorem dX0_take_109 : decode cX0_take 109 = .ok (.iload_n 3, 1) := by decide +kernel
theorem dX0_take_110 : decode cX0_take 110 = .ok (.aload_n 0, 1) := by decide +kernel
theorem dX0_take_111 : decode cX0_take 111 = .ok (.getfield 7, 3) := by decide +kernel
theorem dX0_take_114 : decode cX0_take 114 = .ok (.getfield 97, 3) := by decide +kernel
theorem dX0_take_117 : decode cX0_take 117 = .ok (.getfield 101, 3) := by decide +kernel
theorem dX0_take_120 : decode cX0_take 120 = .ok (.invokevirtual 105, 3) := by decide +kernel
theorem dX0_take_123 : decode cX0_take 123 = .ok (.aload_n 0, 1) := by decide +kernel
theorem dX0_take_124 : decode cX0_take 124 = .ok (.getfield 7, 3) := by decide +kernel
theorem dX0_take_127 : decode cX0_take 127 = .ok (.getfield 97, 3) := by decide +kernel
theorem dX0_take_130 : decode cX0_take 130 = .ok (.iload_n 3, 1) := by decide +kernel
theorem dX0_take_131 : decode cX0_take 131 = .ok (.invokevirtual 109, 3) := by decide +kernel
theorem dX0_take_134 : decode cX0_take 134 = .ok (.if_icmp .ne 13, 3) := by decide +kernel
theorem dX0_take_137 : decode cX0_take 137 = .ok (.aload_n 0, 1) := by decide +kernel
theorem dX0_take_138 : decode cX0_take 138 = .ok (.aload 6, 2) := by decide +kernel
theorem dX0_take_140 : decode cX0_take 140 = .ok (.iload_n 3, 1) := by decide +kernel
theorem dX0_take_141 : decode cX0_take 141 = .ok (.invokevirtual 111, 3) := by decide +kernel
theorem dX0_take_144 : decode cX0_take 144 = .ok (.goto 9, 3) := by decide +kernel
theorem dX0_take_147 : decode cX0_take 147 = .ok (.aload_n 0, 1) := by decide +kernel
theorem dX0_take_148 : decode cX0_take 148 = .ok (.iload_n 1, 1) := by decide +kernel
theorem dX0_take_149 : decode cX0_take 149 = .ok (.iload_n 3, 1) := by decide +kernel
theorem dX0_take_150 : decode cX0_take 150 = .ok (.invokevirtual 115, 3) := by decide +kernel
theorem dX0_take_153 : decode cX0_take 153 = .ok (.return_, 1) := by decide +kernel
set_option maxRecDepth 20000 in
theorem ggX0_isSpare_X9_isIn : GoodIn wsX0_isSpare wsX9_isIn := goodIn_r _ [5] (by decide +kernel) (by decide +kernel)
set_option maxRecDepth 20000 in
theorem gX0_isSpare_X9_isIn_n121 : GoodIn wsX0_isSpare (wsX9_isIn) := ggX0_isSpare_X9_isIn
set_option maxRecDepth 20000 in
theorem ggX0_isSpare_X6_holds : GoodIn wsX0_isSpare wsX6_holds := goodIn_r _ [10, 11, 12, 3, 4, 5, 13, 14, 19, 20, 21, 22, 23, 24] (by decide +kernel) (by decide +kernel)
set_option maxRecDepth 20000 in
theorem gX0_isSpare_X6_holds : GoodIn wsX0_isSpare (wsV RX0 127 RX6 yX6_holds wsX6_holds) := goodIn_app (goodIn_of _ (by decide +kernel)) ggX0_isSpare_X6_holds
set_option maxRecDepth 20000 in
theorem ggX0_isSpare_X6_giversOf : GoodIn wsX0_isSpare wsX6_giversOf := goodIn_r _ [18, 12, 13, 4, 14, 19, 20, 21, 22, 23, 24] (by decide +kernel) (by decide +kernel)
set_option maxRecDepth 20000 in
theorem gX0_isSpare_X6_giversOf : GoodIn wsX0_isSpare (wsV RX0 133 RX6 yX6_giversOf wsX6_giversOf) := goodIn_app (goodIn_of _ (by decide +kernel)) ggX0_isSpare_X6_giversOf
theorem dX0_isSpare_0 : decode cX0_isSpare 0 = .ok (.aload_n 1, 1) := by decide +kernel
theorem dX0_isSpare_1 : decode cX0_isSpare 1 = .ok (.getfield 118, 3) := by decide +kernel
theorem dX0_isSpare_4 : decode cX0_isSpare 4 = .ok (.iload_n 3, 1) := by decide +kernel
theorem dX0_isSpare_5 : decode cX0_isSpare 5 = .ok (.invokestatic 121, 3) := by decide +kernel
theorem dX0_isSpare_8 : decode cX0_isSpare 8 = .ok (.ifCond .ne 13, 3) := by decide +kernel
theorem dX0_isSpare_11 : decode cX0_isSpare 11 = .ok (.aload_n 1, 1) := by decide +kernel
theorem dX0_isSpare_12 : decode cX0_isSpare 12 = .ok (.iload_n 3, 1) := by decide +kernel
theorem dX0_isSpare_13 : decode cX0_isSpare 13 = .ok (.iload 4, 2) := by decide +kernel
theorem dX0_isSpare_15 : decode cX0_isSpare 15 = .ok (.invokevirtual 127, 3) := by decide +kernel
theorem dX0_isSpare_18 : decode cX0_isSpare 18 = .ok (.ifCond .eq 5, 3) := by decide +kernel
theorem dX0_isSpare_21 : decode cX0_isSpare 21 = .ok (.iconst 1, 1) := by decide +kernel
theorem dX0_isSpare_22 : decode cX0_isSpare 22 = .ok (.ireturn, 1) := by decide +kernel
theorem dX0_isSpare_23 : decode cX0_isSpare 23 = .ok (.aload_n 1, 1) := by decide +kernel
theorem dX0_isSpare_24 : decode cX0_isSpare 24 = .ok (.getfield 130, 3) := by decide +kernel
theorem dX0_isSpare_27 : decode cX0_isSpare 27 = .ok (.iload_n 3, 1) := by decide +kernel
theorem dX0_isSpare_28 : decode cX0_isSpare 28 = .ok (.invokestatic 121, 3) := by decide +kernel
theorem dX0_isSpare_31 : decode cX0_isSpare 31 = .ok (.ifCond .eq 21, 3) := by decide +kernel
theorem dX0_isSpare_34 : decode cX0_isSpare 34 = .ok (.aload_n 1, 1) := by decide +kernel
theorem dX0_isSpare_35 : decode cX0_isSpare 35 = .ok (.iload_n 3, 1) := by decide +kernel
theorem dX0_isSpare_36 : decode cX0_isSpare 36 = .ok (.invokevirtual 133, 3) := by decide +kernel
theorem dX0_isSpare_39 : decode cX0_isSpare 39 = .ok (.iconst 1, 1) := by decide +kernel
theorem dX0_isSpare_40 : decode cX0_isSpare 40 = .ok (.iload_n 2, 1) := by decide +kernel
theorem dX0_isSpare_41 : decode cX0_isSpare 41 = .ok (.ishl, 1) := by decide +kernel
theorem dX0_isSpare_42 : decode cX0_isSpare 42 = .ok (.iconst (-1), 1) := by decide +kernel
theorem dX0_isSpare_43 : decode cX0_isSpare 43 = .ok (.ixor, 1) := by decide +kernel
theorem dX0_isSpare_44 : decode cX0_isSpare 44 = .ok (.iand, 1) := by decide +kernel
theorem dX0_isSpare_45 : decode cX0_isSpare 45 = .ok (.ifCond .eq 7, 3) := by decide +kernel
theorem dX0_isSpare_48 : decode cX0_isSpare 48 = .ok (.iconst 1, 1) := by decide +kernel
theorem dX0_isSpare_49 : decode cX0_isSpare 49 = .ok (.goto 4, 3) := by decide +kernel
theorem dX0_isSpare_52 : decode cX0_isSpare 52 = .ok (.iconst 0, 1) := by decide +kernel
theorem dX0_isSpare_53 : decode cX0_isSpare 53 = .ok (.ireturn, 1) := by decide +kernel
set_option maxRecDepth 20000 in
theorem ggX0_complete_X8_allPieces : GoodIn wsX0_complete wsX8_allPieces := goodIn_r _ [11, 12, 41, 42, 43] (by decide +kernel) (by decide +kernel)
set_option maxRecDepth 20000 in
theorem gX0_complete_X8_allPieces : GoodIn wsX0_complete (wsV RX0 136 RX8 yX8_allPieces wsX8_allPieces) := goodIn_app (goodIn_of _ (by decide +kernel)) ggX0_complete_X8_allPieces
theorem dX0_complete_0 : decode cX0_complete 0 = .ok (.aload_n 1, 1) := by decide +kernel
theorem dX0_complete_1 : decode cX0_complete 1 = .ok (.getfield 59, 3) := by decide +kernel
theorem dX0_complete_4 : decode cX0_complete 4 = .ok (.dup, 1) := by decide +kernel
theorem dX0_complete_5 : decode cX0_complete 5 = .ok (.getfield 118, 3) := by decide +kernel
theorem dX0_complete_8 : decode cX0_complete 8 = .ok (.iconst 1, 1) := by decide +kernel
theorem dX0_complete_9 : decode cX0_complete 9 = .ok (.iload_n 2, 1) := by decide +kernel
theorem dX0_complete_10 : decode cX0_complete 10 = .ok (.ishl, 1) := by decide +kernel
theorem dX0_complete_11 : decode cX0_complete 11 = .ok (.ior, 1) := by decide +kernel
theorem dX0_complete_12 : decode cX0_complete 12 = .ok (.putfield 118, 3) := by decide +kernel
theorem dX0_complete_15 : decode cX0_complete 15 = .ok (.aload_n 1, 1) := by decide +kernel
theorem dX0_complete_16 : decode cX0_complete 16 = .ok (.getfield 59, 3) := by decide +kernel
theorem dX0_complete_19 : decode cX0_complete 19 = .ok (.getfield 118, 3) := by decide +kernel
theorem dX0_complete_22 : decode cX0_complete 22 = .ok (.aload_n 0, 1) := by decide +kernel
theorem dX0_complete_23 : decode cX0_complete 23 = .ok (.getfield 7, 3) := by decide +kernel
theorem dX0_complete_26 : decode cX0_complete 26 = .ok (.getfield 97, 3) := by decide +kernel
theorem dX0_complete_29 : decode cX0_complete 29 = .ok (.invokevirtual 136, 3) := by decide +kernel
theorem dX0_complete_32 : decode cX0_complete 32 = .ok (.if_icmp .ne 14, 3) := by decide +kernel
theorem dX0_complete_35 : decode cX0_complete 35 = .ok (.aload_n 1, 1) := by decide +kernel
theorem dX0_complete_36 : decode cX0_complete 36 = .ok (.aload_n 0, 1) := by decide +kernel
theorem dX0_complete_37 : decode cX0_complete 37 = .ok (.getfield 7, 3) := by decide +kernel
theorem dX0_complete_40 : decode cX0_complete 40 = .ok (.getfield 29, 3) := by decide +kernel
theorem dX0_complete_43 : decode cX0_complete 43 = .ok (.putfield 140, 3) := by decide +kernel
theorem dX0_complete_46 : decode cX0_complete 46 = .ok (.return_, 1) := by decide +kernel
set_option maxRecDepth 20000 in
theorem ggX0_fail_X6_giversOf : GoodIn wsX0_fail wsX6_giversOf := goodIn_r _ [13, 14, 15, 16, 17, 64, 65, 66, 67, 68, 69] (by decide +kernel) (by decide +kernel)
set_option maxRecDepth 20000 in
theorem gX0_fail_X6_giversOf : GoodIn wsX0_fail (wsV RX0 133 RX6 yX6_giversOf wsX6_giversOf) := goodIn_app (goodIn_of _ (by decide +kernel)) ggX0_fail_X6_giversOf
set_option maxRecDepth 20000 in
theorem ggX0_fail_X9_isIn : GoodIn wsX0_fail wsX9_isIn := goodIn_r _ [19] (by decide +kernel) (by decide +kernel)
set_option maxRecDepth 20000 in
theorem gX0_fail_X9_isIn_n121 : GoodIn wsX0_fail (wsX9_isIn) := ggX0_fail_X9_isIn
set_option maxRecDepth 20000 in
theorem ggX0_fail_X0_ban : GoodIn wsX0_fail wsX0_ban := goodIn_r _ [24, 1, 2, 5, 25, 26, 27, 32, 33, 34, 35, 36, 37, 38, 39, 40, 41, 42, 43, 44, 45, 46, 47, 48, 49, 50, 51, 52, 53, 54, 55, 56, 57, 58, 59, 60, 61, 62, 63] (by decide +kernel) (by decide +kernel)
set_option maxRecDepth 20000 in
theorem gX0_fail_X0_ban : GoodIn wsX0_fail (wsV RX0 149 RX0 yX0_ban wsX0_ban) := goodIn_app (goodIn_of _ (by decide +kernel)) ggX0_fail_X0_ban
set_option maxRecDepth 20000 in
theorem ggX0_fail_X6_drop : GoodIn wsX0_fail wsX6_drop := goodIn_r _ [31, 14, 15, 16, 17, 64, 65, 66, 67, 68, 69] (by decide +kernel) (by decide +kernel)
set_option maxRecDepth 20000 in
theorem gX0_fail_X6_drop : GoodIn wsX0_fail (wsV RX0 152 RX6 yX6_drop wsX6_drop) := goodIn_app (goodIn_of _ (by decide +kernel)) ggX0_fail_X6_drop
theorem dX0_fail_0 : decode cX0_fail 0 = .ok (.aload_n 0, 1) := by decide +kernel
theorem dX0_fail_1 : decode cX0_fail 1 = .ok (.getfield 7, 3) := by decide +kernel
theorem dX0_fail_4 : decode cX0_fail 4 = .ok (.getfield 55, 3) := by decide +kernel
theorem dX0_fail_7 : decode cX0_fail 7 = .ok (.iload_n 1, 1) := by decide +kernel
theorem dX0_fail_8 : decode cX0_fail 8 = .ok (.aaload, 1) := by decide +kernel
theorem dX0_fail_9 : decode cX0_fail 9 = .ok (.astore_n 3, 1) := by decide +kernel
theorem dX0_fail_10 : decode cX0_fail 10 = .ok (.aload_n 3, 1) := by decide +kernel
theorem dX0_fail_11 : decode cX0_fail 11 = .ok (.getfield 59, 3) := by decide +kernel
theorem dX0_fail_14 : decode cX0_fail 14 = .ok (.iload_n 2, 1) := by decide +kernel
theorem dX0_fail_15 : decode cX0_fail 15 = .ok (.invokevirtual 133, 3) := by decide +kernel
theorem dX0_fail_18 : decode cX0_fail 18 = .ok (.istore 4, 2) := by decide +kernel
theorem dX0_fail_20 : decode cX0_fail 20 = .ok (.iconst 0, 1) := by decide +kernel
theorem dX0_fail_21 : decode cX0_fail 21 = .ok (.istore 5, 2) := by decide +kernel
theorem dX0_fail_23 : decode cX0_fail 23 = .ok (.iload 5, 2) := by decide +kernel
theorem dX0_fail_25 : decode cX0_fail 25 = .ok (.aload_n 0, 1) := by decide +kernel
theorem dX0_fail_26 : decode cX0_fail 26 = .ok (.getfield 7, 3) := by decide +kernel
theorem dX0_fail_29 : decode cX0_fail 29 = .ok (.getfield 143, 3) := by decide +kernel
theorem dX0_fail_32 : decode cX0_fail 32 = .ok (.if_icmp .ge 49, 3) := by decide +kernel
theorem dX0_fail_35 : decode cX0_fail 35 = .ok (.iload 4, 2) := by decide +kernel
theorem dX0_fail_37 : decode cX0_fail 37 = .ok (.iload 5, 2) := by decide +kernel
theorem dX0_fail_39 : decode cX0_fail 39 = .ok (.invokestatic 121, 3) := by decide +kernel
theorem dX0_fail_42 : decode cX0_fail 42 = .ok (.ifCond .eq 33, 3) := by decide +kernel
theorem dX0_fail_45 : decode cX0_fail 45 = .ok (.aload_n 3, 1) := by decide +kernel
theorem dX0_fail_46 : decode cX0_fail 46 = .ok (.getfield 73, 3) := by decide +kernel
theorem dX0_fail_49 : decode cX0_fail 49 = .ok (.getfield 146, 3) := by decide +kernel
theorem dX0_fail_52 : decode cX0_fail 52 = .ok (.iload 5, 2) := by decide +kernel
theorem dX0_fail_54 : decode cX0_fail 54 = .ok (.dup2, 1) := by decide +kernel
theorem dX0_fail_55 : decode cX0_fail 55 = .ok (.iaload, 1) := by decide +kernel
theorem dX0_fail_56 : decode cX0_fail 56 = .ok (.iconst 1, 1) := by decide +kernel
theorem dX0_fail_57 : decode cX0_fail 57 = .ok (.iadd, 1) := by decide +kernel
theorem dX0_fail_58 : decode cX0_fail 58 = .ok (.iastore, 1) := by decide +kernel
theorem dX0_fail_59 : decode cX0_fail 59 = .ok (.iload 4, 2) := by decide +kernel
theorem dX0_fail_61 : decode cX0_fail 61 = .ok (.iconst 1, 1) := by decide +kernel
theorem dX0_fail_62 : decode cX0_fail 62 = .ok (.iload 5, 2) := by decide +kernel
theorem dX0_fail_64 : decode cX0_fail 64 = .ok (.ishl, 1) := by decide +kernel
theorem dX0_fail_65 : decode cX0_fail 65 = .ok (.if_icmp .ne 10, 3) := by decide +kernel
theorem dX0_fail_68 : decode cX0_fail 68 = .ok (.aload_n 0, 1) := by decide +kernel
theorem dX0_fail_69 : decode cX0_fail 69 = .ok (.iload_n 1, 1) := by decide +kernel
theorem dX0_fail_70 : decode cX0_fail 70 = .ok (.iload 5, 2) := by decide +kernel
theorem dX0_fail_72 : decode cX0_fail 72 = .ok (.invokevirtual 149, 3) := by decide +kernel
theorem dX0_fail_75 : decode cX0_fail 75 = .ok (.iinc 5 1, 3) := by decide +kernel
theorem dX0_fail_78 : decode cX0_fail 78 = .ok (.goto (-55), 3) := by decide +kernel
theorem dX0_fail_81 : decode cX0_fail 81 = .ok (.aload_n 3, 1) := by decide +kernel
theorem dX0_fail_82 : decode cX0_fail 82 = .ok (.getfield 59, 3) := by decide +kernel
theorem dX0_fail_85 : decode cX0_fail 85 = .ok (.iload_n 2, 1) := by decide +kernel
theorem dX0_fail_86 : decode cX0_fail 86 = .ok (.invokevirtual 152, 3) := by decide +kernel
theorem dX0_fail_89 : decode cX0_fail 89 = .ok (.aload_n 3, 1) := by decide +kernel
theorem dX0_fail_90 : decode cX0_fail 90 = .ok (.getfield 59, 3) := by decide +kernel
theorem dX0_fail_93 : decode cX0_fail 93 = .ok (.dup, 1) := by decide +kernel
theorem dX0_fail_94 : decode cX0_fail 94 = .ok (.getfield 130, 3) := by decide +kernel
theorem dX0_fail_97 : decode cX0_fail 97 = .ok (.iconst 1, 1) := by decide +kernel
theorem dX0_fail_98 : decode cX0_fail 98 = .ok (.iload_n 2, 1) := by decide +kernel
theorem dX0_fail_99 : decode cX0_fail 99 = .ok (.ishl, 1) := by decide +kernel
theorem dX0_fail_100 : decode cX0_fail 100 = .ok (.ior, 1) := by decide +kernel
theorem dX0_fail_101 : decode cX0_fail 101 = .ok (.putfield 130, 3) := by decide +kernel
theorem dX0_fail_104 : decode cX0_fail 104 = .ok (.aload_n 3, 1) := by decide +kernel
theorem dX0_fail_105 : decode cX0_fail 105 = .ok (.dup, 1) := by decide +kernel
theorem dX0_fail_106 : decode cX0_fail 106 = .ok (.getfield 156, 3) := by decide +kernel
theorem dX0_fail_109 : decode cX0_fail 109 = .ok (.iconst 1, 1) := by decide +kernel
theorem dX0_fail_110 : decode cX0_fail 110 = .ok (.iadd, 1) := by decide +kernel
theorem dX0_fail_111 : decode cX0_fail 111 = .ok (.putfield 156, 3) := by decide +kernel
theorem dX0_fail_114 : decode cX0_fail 114 = .ok (.return_, 1) := by decide +kernel
theorem dX0_ban_0 : decode cX0_ban 0 = .ok (.aload_n 0, 1) := by decide +kernel
theorem dX0_ban_1 : decode cX0_ban 1 = .ok (.getfield 7, 3) := by decide +kernel
theorem dX0_ban_4 : decode cX0_ban 4 = .ok (.getfield 55, 3) := by decide +kernel
theorem dX0_ban_7 : decode cX0_ban 7 = .ok (.iload_n 1, 1) := by decide +kernel
theorem dX0_ban_8 : decode cX0_ban 8 = .ok (.aaload, 1) := by decide +kernel
theorem dX0_ban_9 : decode cX0_ban 9 = .ok (.getfield 73, 3) := by decide +kernel
theorem dX0_ban_12 : decode cX0_ban 12 = .ok (.astore_n 3, 1) := by decide +kernel
theorem dX0_ban_13 : decode cX0_ban 13 = .ok (.aload_n 0, 1) := by decide +kernel
theorem dX0_ban_14 : decode cX0_ban 14 = .ok (.getfield 7, 3) := by decide +kernel
theorem dX0_ban_17 : decode cX0_ban 17 = .ok (.getfield 55, 3) := by decide +kernel
theorem dX0_ban_20 : decode cX0_ban 20 = .ok (.iload_n 2, 1) := by decide +kernel
theorem dX0_ban_21 : decode cX0_ban 21 = .ok (.aaload, 1) := by decide +kernel
theorem dX0_ban_22 : decode cX0_ban 22 = .ok (.getfield 73, 3) := by decide +kernel
theorem dX0_ban_25 : decode cX0_ban 25 = .ok (.astore 4, 2) := by decide +kernel
theorem dX0_ban_27 : decode cX0_ban 27 = .ok (.aload_n 3, 1) := by decide +kernel
theorem dX0_ban_28 : decode cX0_ban 28 = .ok (.dup, 1) := by decide +kernel
theorem dX0_ban_29 : decode cX0_ban 29 = .ok (.getfield 159, 3) := by decide +kernel
theorem dX0_ban_32 : decode cX0_ban 32 = .ok (.iconst 1, 1) := by decide +kernel
theorem dX0_ban_33 : decode cX0_ban 33 = .ok (.iload_n 2, 1) := by decide +kernel
theorem dX0_ban_34 : decode cX0_ban 34 = .ok (.ishl, 1) := by decide +kernel
theorem dX0_ban_35 : decode cX0_ban 35 = .ok (.ior, 1) := by decide +kernel
theorem dX0_ban_36 : decode cX0_ban 36 = .ok (.putfield 159, 3) := by decide +kernel
theorem dX0_ban_39 : decode cX0_ban 39 = .ok (.aload 4, 2) := by decide +kernel
theorem dX0_ban_41 : decode cX0_ban 41 = .ok (.dup, 1) := by decide +kernel
theorem dX0_ban_42 : decode cX0_ban 42 = .ok (.getfield 162, 3) := by decide +kernel
theorem dX0_ban_45 : decode cX0_ban 45 = .ok (.iconst 1, 1) := by decide +kernel
theorem dX0_ban_46 : decode cX0_ban 46 = .ok (.iload_n 1, 1) := by decide +kernel
theorem dX0_ban_47 : decode cX0_ban 47 = .ok (.ishl, 1) := by decide +kernel
theorem dX0_ban_48 : decode cX0_ban 48 = .ok (.ior, 1) := by decide +kernel
theorem dX0_ban_49 : decode cX0_ban 49 = .ok (.putfield 162, 3) := by decide +kernel
theorem dX0_ban_52 : decode cX0_ban 52 = .ok (.aload_n 3, 1) := by decide +kernel
theorem dX0_ban_53 : decode cX0_ban 53 = .ok (.dup, 1) := by decide +kernel
theorem dX0_ban_54 : decode cX0_ban 54 = .ok (.getfield 165, 3) := by decide +kernel
theorem dX0_ban_57 : decode cX0_ban 57 = .ok (.iconst 1, 1) := by decide +kernel
theorem dX0_ban_58 : decode cX0_ban 58 = .ok (.iload_n 2, 1) := by decide +kernel
theorem dX0_ban_59 : decode cX0_ban 59 = .ok (.ishl, 1) := by decide +kernel
theorem dX0_ban_60 : decode cX0_ban 60 = .ok (.iconst (-1), 1) := by decide +kernel
theorem dX0_ban_61 : decode cX0_ban 61 = .ok (.ixor, 1) := by decide +kernel
theorem dX0_ban_62 : decode cX0_ban 62 = .ok (.iand, 1) := by decide +kernel
theorem dX0_ban_63 : decode cX0_ban 63 = .ok (.putfield 165, 3) := by decide +kernel
theorem dX0_ban_66 : decode cX0_ban 66 = .ok (.aload 4, 2) := by decide +kernel
theorem dX0_ban_68 : decode cX0_ban 68 = .ok (.dup, 1) := by decide +kernel
theorem dX0_ban_69 : decode cX0_ban 69 = .ok (.getfield 165, 3) := by decide +kernel
theorem dX0_ban_72 : decode cX0_ban 72 = .ok (.iconst 1, 1) := by decide +kernel
theorem dX0_ban_73 : decode cX0_ban 73 = .ok (.iload_n 1, 1) := by decide +kernel
theorem dX0_ban_74 : decode cX0_ban 74 = .ok (.ishl, 1) := by decide +kernel
theorem dX0_ban_75 : decode cX0_ban 75 = .ok (.iconst (-1), 1) := by decide +kernel
theorem dX0_ban_76 : decode cX0_ban 76 = .ok (.ixor, 1) := by decide +kernel
theorem dX0_ban_77 : decode cX0_ban 77 = .ok (.iand, 1) := by decide +kernel
theorem dX0_ban_78 : decode cX0_ban 78 = .ok (.putfield 165, 3) := by decide +kernel
theorem dX0_ban_81 : decode cX0_ban 81 = .ok (.return_, 1) := by decide +kernel
theorem dX1_init_0 : decode cX1_init 0 = .ok (.aload_n 0, 1) := by decide +kernel
theorem dX1_init_1 : decode cX1_init 1 = .ok (.invokespecial 3, 3) := by decide +kernel
theorem dX1_init_4 : decode cX1_init 4 = .ok (.aload_n 0, 1) := by decide +kernel
theorem dX1_init_5 : decode cX1_init 5 = .ok (.aload_n 1, 1) := by decide +kernel
theorem dX1_init_6 : decode cX1_init 6 = .ok (.putfield 9, 3) := by decide +kernel
theorem dX1_init_9 : decode cX1_init 9 = .ok (.return_, 1) := by decide +kernel
set_option maxRecDepth 20000 in
theorem ggX1_dropStranded_X9_isIn : GoodIn wsX1_dropStranded wsX9_isIn := goodIn_r _ [8] (by decide +kernel) (by decide +kernel)
set_option maxRecDepth 20000 in
theorem gX1_dropStranded_X9_isIn_n24 : GoodIn wsX1_dropStranded (wsX9_isIn) := ggX1_dropStranded_X9_isIn
set_option maxRecDepth 20000 in
theorem ggX1_dropStranded_X2_nearTo : GoodIn wsX1_dropStranded wsX2_nearTo := goodIn_r _ [13, 14, 15, 16, 17, 18, 19, 6, 7, 8, 42, 43, 44, 45, 46, 47, 48, 49, 50, 51, 52, 53, 54, 55, 56, 57, 58, 59, 60, 61, 62, 63, 64, 65, 66, 67, 68, 69, 70, 71, 72] (by decide +kernel) (by decide +kernel)
set_option maxRecDepth 20000 in
theorem gX1_dropStranded_X2_nearTo : GoodIn wsX1_dropStranded (wsV RX1 38 RX2 yX2_nearTo wsX2_nearTo) := goodIn_app (goodIn_of _ (by decide +kernel)) ggX1_dropStranded_X2_nearTo
set_option maxRecDepth 20000 in
theorem ggX1_dropStranded_X1_dropStrandedOf : GoodIn wsX1_dropStranded wsX1_dropStrandedOf := goodIn_r _ [24, 25, 26, 1, 27, 28, 6, 7, 8, 29, 30, 31, 32, 33, 34, 35, 36, 37, 38, 39, 40, 73, 74, 75, 76, 77, 78, 41, 42, 43, 44, 45, 46, 47, 48, 49, 79, 80, 81] (by decide +kernel) (by decide +kernel)
set_option maxRecDepth 20000 in
theorem gX1_dropStranded_X1_dropStrandedOf : GoodIn wsX1_dropStranded (wsV RX1 42 RX1 yX1_dropStrandedOf wsX1_dropStrandedOf) := goodIn_app (goodIn_of _ (by decide +kernel)) ggX1_dropStranded_X1_dropStrandedOf
theorem dX1_dropStranded_0 : decode cX1_dropStranded 0 = .ok (.iconst 0, 1) := by decide +kernel
theorem dX1_dropStranded_1 : decode cX1_dropStranded 1 = .ok (.istore_n 1, 1) := by decide +kernel
theorem dX1_dropStranded_2 : decode cX1_dropStranded 2 = .ok (.iload_n 1, 1) := by decide +kernel
theorem dX1_dropStranded_3 : decode cX1_dropStranded 3 = .ok (.aload_n 0, 1) := by decide +kernel
theorem dX1_dropStranded_4 : decode cX1_dropStranded 4 = .ok (.getfield 9, 3) := by decide +kernel
theorem dX1_dropStranded_7 : decode cX1_dropStranded 7 = .ok (.getfield 15, 3) := by decide +kernel
theorem dX1_dropStranded_10 : decode cX1_dropStranded 10 = .ok (.if_icmp .ge 47, 3) := by decide +kernel
theorem dX1_dropStranded_13 : decode cX1_dropStranded 13 = .ok (.aload_n 0, 1) := by decide +kernel
theorem dX1_dropStranded_14 : decode cX1_dropStranded 14 = .ok (.getfield 9, 3) := by decide +kernel
theorem dX1_dropStranded_17 : decode cX1_dropStranded 17 = .ok (.getfield 21, 3) := by decide +kernel
theorem dX1_dropStranded_20 : decode cX1_dropStranded 20 = .ok (.iload_n 1, 1) := by decide +kernel
theorem dX1_dropStranded_21 : decode cX1_dropStranded 21 = .ok (.invokestatic 24, 3) := by decide +kernel
theorem dX1_dropStranded_24 : decode cX1_dropStranded 24 = .ok (.ifCond .eq 27, 3) := by decide +kernel
theorem dX1_dropStranded_27 : decode cX1_dropStranded 27 = .ok (.aload_n 0, 1) := by decide +kernel
theorem dX1_dropStranded_28 : decode cX1_dropStranded 28 = .ok (.aload_n 0, 1) := by decide +kernel
theorem dX1_dropStranded_29 : decode cX1_dropStranded 29 = .ok (.getfield 9, 3) := by decide +kernel
theorem dX1_dropStranded_32 : decode cX1_dropStranded 32 = .ok (.getfield 28, 3) := by decide +kernel
theorem dX1_dropStranded_35 : decode cX1_dropStranded 35 = .ok (.iload_n 1, 1) := by decide +kernel
theorem dX1_dropStranded_36 : decode cX1_dropStranded 36 = .ok (.aaload, 1) := by decide +kernel
theorem dX1_dropStranded_37 : decode cX1_dropStranded 37 = .ok (.getfield 32, 3) := by decide +kernel
theorem dX1_dropStranded_40 : decode cX1_dropStranded 40 = .ok (.aload_n 0, 1) := by decide +kernel
theorem dX1_dropStranded_41 : decode cX1_dropStranded 41 = .ok (.getfield 9, 3) := by decide +kernel
theorem dX1_dropStranded_44 : decode cX1_dropStranded 44 = .ok (.iload_n 1, 1) := by decide +kernel
theorem dX1_dropStranded_45 : decode cX1_dropStranded 45 = .ok (.invokevirtual 38, 3) := by decide +kernel
theorem dX1_dropStranded_48 : decode cX1_dropStranded 48 = .ok (.invokevirtual 42, 3) := by decide +kernel
theorem dX1_dropStranded_51 : decode cX1_dropStranded 51 = .ok (.iinc 1 1, 3) := by decide +kernel
theorem dX1_dropStranded_54 : decode cX1_dropStranded 54 = .ok (.goto (-52), 3) := by decide +kernel
theorem dX1_dropStranded_57 : decode cX1_dropStranded 57 = .ok (.return_, 1) := by decide +kernel
set_option maxRecDepth 20000 in
theorem ggX1_dropStrandedOf_X9_isIn : GoodIn wsX1_dropStrandedOf wsX9_isIn := goodIn_r _ [8] (by decide +kernel) (by decide +kernel)
set_option maxRecDepth 20000 in
theorem gX1_dropStrandedOf_X9_isIn_n24 : GoodIn wsX1_dropStrandedOf (wsX9_isIn) := ggX1_dropStrandedOf_X9_isIn
set_option maxRecDepth 20000 in
theorem ggX1_dropStrandedOf_X6_giversOf : GoodIn wsX1_dropStrandedOf wsX6_giversOf := goodIn_r _ [13, 14, 15, 7, 16, 21, 22, 23, 24, 25, 26] (by decide +kernel) (by decide +kernel)
set_option maxRecDepth 20000 in
theorem gX1_dropStrandedOf_X6_giversOf : GoodIn wsX1_dropStrandedOf (wsV RX1 63 RX6 yX6_giversOf wsX6_giversOf) := goodIn_app (goodIn_of _ (by decide +kernel)) ggX1_dropStrandedOf_X6_giversOf
set_option maxRecDepth 20000 in
theorem ggX1_dropStrandedOf_X6_drop : GoodIn wsX1_dropStrandedOf wsX6_drop := goodIn_r _ [20, 14, 15, 7, 16, 21, 22, 23, 24, 25, 26] (by decide +kernel) (by decide +kernel)
set_option maxRecDepth 20000 in
theorem gX1_dropStrandedOf_X6_drop : GoodIn wsX1_dropStrandedOf (wsV RX1 66 RX6 yX6_drop wsX6_drop) := goodIn_app (goodIn_of _ (by decide +kernel)) ggX1_dropStrandedOf_X6_drop
theorem dX1_dropStrandedOf_0 : decode cX1_dropStrandedOf 0 = .ok (.aload_n 1, 1) := by decide +kernel
theorem dX1_dropStrandedOf_1 : decode cX1_dropStrandedOf 1 = .ok (.getfield 46, 3) := by decide +kernel
theorem dX1_dropStrandedOf_4 : decode cX1_dropStrandedOf 4 = .ok (.aload_n 1, 1) := by decide +kernel
theorem dX1_dropStrandedOf_5 : decode cX1_dropStrandedOf 5 = .ok (.getfield 51, 3) := by decide +kernel
theorem dX1_dropStrandedOf_8 : decode cX1_dropStrandedOf 8 = .ok (.iconst (-1), 1) := by decide +kernel
theorem dX1_dropStrandedOf_9 : decode cX1_dropStrandedOf 9 = .ok (.ixor, 1) := by decide +kernel
theorem dX1_dropStrandedOf_10 : decode cX1_dropStrandedOf 10 = .ok (.iand, 1) := by decide +kernel
theorem dX1_dropStrandedOf_11 : decode cX1_dropStrandedOf 11 = .ok (.istore_n 3, 1) := by decide +kernel
theorem dX1_dropStrandedOf_12 : decode cX1_dropStrandedOf 12 = .ok (.iconst 0, 1) := by decide +kernel
theorem dX1_dropStrandedOf_13 : decode cX1_dropStrandedOf 13 = .ok (.istore 4, 2) := by decide +kernel
theorem dX1_dropStrandedOf_15 : decode cX1_dropStrandedOf 15 = .ok (.iload 4, 2) := by decide +kernel
theorem dX1_dropStrandedOf_17 : decode cX1_dropStrandedOf 17 = .ok (.aload_n 0, 1) := by decide +kernel
theorem dX1_dropStrandedOf_18 : decode cX1_dropStrandedOf 18 = .ok (.getfield 9, 3) := by decide +kernel
theorem dX1_dropStrandedOf_21 : decode cX1_dropStrandedOf 21 = .ok (.getfield 54, 3) := by decide +kernel
theorem dX1_dropStrandedOf_24 : decode cX1_dropStrandedOf 24 = .ok (.getfield 58, 3) := by decide +kernel
theorem dX1_dropStrandedOf_27 : decode cX1_dropStrandedOf 27 = .ok (.if_icmp .ge 37, 3) := by decide +kernel
theorem dX1_dropStrandedOf_30 : decode cX1_dropStrandedOf 30 = .ok (.iload_n 3, 1) := by decide +kernel
theorem dX1_dropStrandedOf_31 : decode cX1_dropStrandedOf 31 = .ok (.iload 4, 2) := by decide +kernel
theorem dX1_dropStrandedOf_33 : decode cX1_dropStrandedOf 33 = .ok (.invokestatic 24, 3) := by decide +kernel
theorem dX1_dropStrandedOf_36 : decode cX1_dropStrandedOf 36 = .ok (.ifCond .eq 22, 3) := by decide +kernel
theorem dX1_dropStrandedOf_39 : decode cX1_dropStrandedOf 39 = .ok (.aload_n 1, 1) := by decide +kernel
theorem dX1_dropStrandedOf_40 : decode cX1_dropStrandedOf 40 = .ok (.iload 4, 2) := by decide +kernel
theorem dX1_dropStrandedOf_42 : decode cX1_dropStrandedOf 42 = .ok (.invokevirtual 63, 3) := by decide +kernel
theorem dX1_dropStrandedOf_45 : decode cX1_dropStrandedOf 45 = .ok (.iload_n 2, 1) := by decide +kernel
theorem dX1_dropStrandedOf_46 : decode cX1_dropStrandedOf 46 = .ok (.iconst (-1), 1) := by decide +kernel
theorem dX1_dropStrandedOf_47 : decode cX1_dropStrandedOf 47 = .ok (.ixor, 1) := by decide +kernel
theorem dX1_dropStrandedOf_48 : decode cX1_dropStrandedOf 48 = .ok (.iand, 1) := by decide +kernel
theorem dX1_dropStrandedOf_49 : decode cX1_dropStrandedOf 49 = .ok (.ifCond .eq 9, 3) := by decide +kernel
theorem dX1_dropStrandedOf_52 : decode cX1_dropStrandedOf 52 = .ok (.aload_n 1, 1) := by decide +kernel
theorem dX1_dropStrandedOf_53 : decode cX1_dropStrandedOf 53 = .ok (.iload 4, 2) := by decide +kernel
theorem dX1_dropStrandedOf_55 : decode cX1_dropStrandedOf 55 = .ok (.invokevirtual 66, 3) := by decide +kernel
theorem dX1_dropStrandedOf_58 : decode cX1_dropStrandedOf 58 = .ok (.iinc 4 1, 3) := by decide +kernel
theorem dX1_dropStrandedOf_61 : decode cX1_dropStrandedOf 61 = .ok (.goto (-46), 3) := by decide +kernel
theorem dX1_dropStrandedOf_64 : decode cX1_dropStrandedOf 64 = .ok (.return_, 1) := by decide +kernel
set_option maxRecDepth 20000 in
theorem ggX1_runRounds_X9_isIn : GoodIn wsX1_runRounds wsX9_isIn := goodIn_r _ [11] (by decide +kernel) (by decide +kernel)
set_option maxRecDepth 20000 in
theorem gX1_runRounds_X9_isIn_n24 : GoodIn wsX1_runRounds (wsX9_isIn) := ggX1_runRounds_X9_isIn
set_option maxRecDepth 20000 in
theorem ggX1_runRounds_X1_askOne : GoodIn wsX1_runRounds wsX1_askOne := goodIn_r _ [16, 1, 3, 7, 17, 18, 19, 20, 21, 22, 23, 24, 25, 26, 27, 28, 29, 30, 31, 32, 33, 34, 35, 15, 36, 2, 37, 38, 5, 39, 40, 41, 42, 43, 44, 45, 46, 47, 48, 49, 9, 10, 11, 50, 51, 52, 53, 54, 55, 56, 57, 58, 59, 60, 61, 62, 63, 64, 65, 66, 67, 68, 69, 70, 71, 72, 73, 74, 75, 76, 77, 78, 79, 80, 81, 82, 83, 84, 85, 86, 87, 88, 89, 90, 91, 92, 93, 94, 95, 96, 97, 98, 99, 100, 101, 102, 103, 104, 105, 106, 107, 108, 109, 110, 111, 112, 113, 114, 115, 116, 117, 118, 119, 120, 121, 122, 123, 124, 125, 126, 127, 128, 129, 130, 131, 132, 133, 134, 135, 136, 137, 138, 139, 140, 141, 142, 143, 144, 145, 146, 147, 148, 149, 150, 151, 152, 153, 154, 155, 156, 157, 158, 159, 160, 161, 162, 163, 164, 165, 166, 167, 168, 169, 170, 171, 172, 173, 174, 175, 176, 177, 178, 179, 180, 181, 182, 183, 184, 185, 186, 187, 188, 189, 190, 191, 192, 193, 194, 195, 196, 197, 198, 199, 200, 201, 202, 203, 204, 205, 206, 207] (by decide +kernel) (by decide +kernel)
set_option maxRecDepth 20000 in
theorem gX1_runRounds_X1_askOne : GoodIn wsX1_runRounds (wsV RX1 82 RX1 yX1_askOne wsX1_askOne) := goodIn_app (goodIn_of _ (by decide +kernel)) ggX1_runRounds_X1_askOne
theorem dX1_runRounds_0 : decode cX1_runRounds 0 = .ok (.iconst 0, 1) := by decide +kernel
theorem dX1_runRounds_1 : decode cX1_runRounds 1 = .ok (.istore_n 1, 1) := by decide +kernel
theorem dX1_runRounds_2 : decode cX1_runRounds 2 = .ok (.iload_n 1, 1) := by decide +kernel
theorem dX1_runRounds_3 : decode cX1_runRounds 3 = .ok (.aload_n 0, 1) := by decide +kernel
theorem dX1_runRounds_4 : decode cX1_runRounds 4 = .ok (.getfield 9, 3) := by decide +kernel
theorem dX1_runRounds_7 : decode cX1_runRounds 7 = .ok (.getfield 15, 3) := by decide +kernel
theorem dX1_runRounds_10 : decode cX1_runRounds 10 = .ok (.if_icmp .ge 57, 3) := by decide +kernel
theorem dX1_runRounds_13 : decode cX1_runRounds 13 = .ok (.aload_n 0, 1) := by decide +kernel
theorem dX1_runRounds_14 : decode cX1_runRounds 14 = .ok (.getfield 9, 3) := by decide +kernel
theorem dX1_runRounds_17 : decode cX1_runRounds 17 = .ok (.getfield 28, 3) := by decide +kernel
theorem dX1_runRounds_20 : decode cX1_runRounds 20 = .ok (.iload_n 1, 1) := by decide +kernel
theorem dX1_runRounds_21 : decode cX1_runRounds 21 = .ok (.aaload, 1) := by decide +kernel
theorem dX1_runRounds_22 : decode cX1_runRounds 22 = .ok (.aload_n 0, 1) := by decide +kernel
theorem dX1_runRounds_23 : decode cX1_runRounds 23 = .ok (.getfield 9, 3) := by decide +kernel
theorem dX1_runRounds_26 : decode cX1_runRounds 26 = .ok (.getfield 28, 3) := by decide +kernel
theorem dX1_runRounds_29 : decode cX1_runRounds 29 = .ok (.iload_n 1, 1) := by decide +kernel
theorem dX1_runRounds_30 : decode cX1_runRounds 30 = .ok (.aaload, 1) := by decide +kernel
theorem dX1_runRounds_31 : decode cX1_runRounds 31 = .ok (.getfield 70, 3) := by decide +kernel
theorem dX1_runRounds_34 : decode cX1_runRounds 34 = .ok (.putfield 73, 3) := by decide +kernel
theorem dX1_runRounds_37 : decode cX1_runRounds 37 = .ok (.aload_n 0, 1) := by decide +kernel
theorem dX1_runRounds_38 : decode cX1_runRounds 38 = .ok (.getfield 9, 3) := by decide +kernel
theorem dX1_runRounds_41 : decode cX1_runRounds 41 = .ok (.getfield 28, 3) := by decide +kernel
theorem dX1_runRounds_44 : decode cX1_runRounds 44 = .ok (.iload_n 1, 1) := by decide +kernel
theorem dX1_runRounds_45 : decode cX1_runRounds 45 = .ok (.aaload, 1) := by decide +kernel
theorem dX1_runRounds_46 : decode cX1_runRounds 46 = .ok (.aload_n 0, 1) := by decide +kernel
theorem dX1_runRounds_47 : decode cX1_runRounds 47 = .ok (.getfield 9, 3) := by decide +kernel
theorem dX1_runRounds_50 : decode cX1_runRounds 50 = .ok (.getfield 28, 3) := by decide +kernel
theorem dX1_runRounds_53 : decode cX1_runRounds 53 = .ok (.iload_n 1, 1) := by decide +kernel
theorem dX1_runRounds_54 : decode cX1_runRounds 54 = .ok (.aaload, 1) := by decide +kernel
theorem dX1_runRounds_55 : decode cX1_runRounds 55 = .ok (.getfield 76, 3) := by decide +kernel
theorem dX1_runRounds_58 : decode cX1_runRounds 58 = .ok (.putfield 79, 3) := by decide +kernel
theorem dX1_runRounds_61 : decode cX1_runRounds 61 = .ok (.iinc 1 1, 3) := by decide +kernel
theorem dX1_runRounds_64 : decode cX1_runRounds 64 = .ok (.goto (-62), 3) := by decide +kernel
theorem dX1_runRounds_67 : decode cX1_runRounds 67 = .ok (.iconst 1, 1) := by decide +kernel
theorem dX1_runRounds_68 : decode cX1_runRounds 68 = .ok (.istore_n 1, 1) := by decide +kernel
theorem dX1_runRounds_69 : decode cX1_runRounds 69 = .ok (.iconst 0, 1) := by decide +kernel
theorem dX1_runRounds_70 : decode cX1_runRounds 70 = .ok (.istore_n 2, 1) := by decide +kernel
theorem dX1_runRounds_71 : decode cX1_runRounds 71 = .ok (.iload_n 1, 1) := by decide +kernel
theorem dX1_runRounds_72 : decode cX1_runRounds 72 = .ok (.ifCond .eq 60, 3) := by decide +kernel
theorem dX1_runRounds_75 : decode cX1_runRounds 75 = .ok (.iload_n 2, 1) := by decide +kernel
theorem dX1_runRounds_76 : decode cX1_runRounds 76 = .ok (.bipush 96, 2) := by decide +kernel
theorem dX1_runRounds_78 : decode cX1_runRounds 78 = .ok (.if_icmp .gt 54, 3) := by decide +kernel
theorem dX1_runRounds_81 : decode cX1_runRounds 81 = .ok (.iconst 0, 1) := by decide +kernel
theorem dX1_runRounds_82 : decode cX1_runRounds 82 = .ok (.istore_n 1, 1) := by decide +kernel
theorem dX1_runRounds_83 : decode cX1_runRounds 83 = .ok (.iconst 0, 1) := by decide +kernel
theorem dX1_runRounds_84 : decode cX1_runRounds 84 = .ok (.istore_n 3, 1) := by decide +kernel
theorem dX1_runRounds_85 : decode cX1_runRounds 85 = .ok (.iload_n 3, 1) := by decide +kernel
theorem dX1_runRounds_86 : decode cX1_runRounds 86 = .ok (.aload_n 0, 1) := by decide +kernel
theorem dX1_runRounds_87 : decode cX1_runRounds 87 = .ok (.getfield 9, 3) := by decide +kernel
theorem dX1_runRounds_90 : decode cX1_runRounds 90 = .ok (.getfield 15, 3) := by decide +kernel
theorem dX1_runRounds_93 : decode cX1_runRounds 93 = .ok (.if_icmp .ge 33, 3) := by decide +kernel
theorem dX1_runRounds_96 : decode cX1_runRounds 96 = .ok (.aload_n 0, 1) := by decide +kernel
theorem dX1_runRounds_97 : decode cX1_runRounds 97 = .ok (.getfield 9, 3) := by decide +kernel
theorem dX1_runRounds_100 : decode cX1_runRounds 100 = .ok (.getfield 21, 3) := by decide +kernel
theorem dX1_runRounds_103 : decode cX1_runRounds 103 = .ok (.iload_n 3, 1) := by decide +kernel
theorem dX1_runRounds_104 : decode cX1_runRounds 104 = .ok (.invokestatic 24, 3) := by decide +kernel
theorem dX1_runRounds_107 : decode cX1_runRounds 107 = .ok (.ifCond .eq 13, 3) := by decide +kernel
theorem dX1_runRounds_110 : decode cX1_runRounds 110 = .ok (.aload_n 0, 1) := by decide +kernel
theorem dX1_runRounds_111 : decode cX1_runRounds 111 = .ok (.iload_n 3, 1) := by decide +kernel
theorem dX1_runRounds_112 : decode cX1_runRounds 112 = .ok (.invokevirtual 82, 3) := by decide +kernel
theorem dX1_runRounds_115 : decode cX1_runRounds 115 = .ok (.ifCond .eq 5, 3) := by decide +kernel
theorem dX1_runRounds_118 : decode cX1_runRounds 118 = .ok (.iconst 1, 1) := by decide +kernel
theorem dX1_runRounds_119 : decode cX1_runRounds 119 = .ok (.istore_n 1, 1) := by decide +kernel
theorem dX1_runRounds_120 : decode cX1_runRounds 120 = .ok (.iinc 3 1, 3) := by decide +kernel
theorem dX1_runRounds_123 : decode cX1_runRounds 123 = .ok (.goto (-38), 3) := by decide +kernel
theorem dX1_runRounds_126 : decode cX1_runRounds 126 = .ok (.iinc 2 1, 3) := by decide +kernel
theorem dX1_runRounds_129 : decode cX1_runRounds 129 = .ok (.goto (-58), 3) := by decide +kernel
theorem dX1_runRounds_132 : decode cX1_runRounds 132 = .ok (.return_, 1) := by decide +kernel
set_option maxRecDepth 20000 in
theorem ggX1_askOne_X3_isDone : GoodIn wsX1_askOne wsX3_isDone := goodIn_r _ [12, 13, 162, 163, 164, 165, 166, 167, 168, 169, 170, 171, 172, 173, 174] (by decide +kernel) (by decide +kernel)
set_option maxRecDepth 20000 in
theorem gX1_askOne_X3_isDone : GoodIn wsX1_askOne (wsV RX1 86 RX3 yX3_isDone wsX3_isDone) := goodIn_app (goodIn_of _ (by decide +kernel)) ggX1_askOne_X3_isDone
set_option maxRecDepth 20000 in
theorem ggX1_askOne_X5_hasRoom : GoodIn wsX1_askOne wsX5_hasRoom := goodIn_r _ [18, 19, 178, 179, 180, 181, 182, 183, 184] (by decide +kernel) (by decide +kernel)
set_option maxRecDepth 20000 in
theorem gX1_askOne_X5_hasRoom : GoodIn wsX1_askOne (wsV RX1 94 RX5 yX5_hasRoom wsX5_hasRoom) := goodIn_app (goodIn_of _ (by decide +kernel)) ggX1_askOne_X5_hasRoom
set_option maxRecDepth 20000 in
theorem ggX1_askOne_X1_giversTo : GoodIn wsX1_askOne wsX1_giversTo := goodIn_r _ [24, 1, 25, 2, 26, 27, 28, 29, 30, 31, 32, 33, 34, 35, 36, 37, 38, 39, 40, 41, 42, 153, 154, 155, 156, 157, 158, 159, 160, 161, 162, 163, 164, 165, 166, 167, 168, 169, 170, 171, 172, 173, 174, 185, 186, 187, 188, 189, 190, 191, 192, 193, 194] (by decide +kernel) (by decide +kernel)
set_option maxRecDepth 20000 in
theorem gX1_askOne_X1_giversTo : GoodIn wsX1_askOne (wsV RX1 99 RX1 yX1_giversTo wsX1_giversTo) := goodIn_app (goodIn_of _ (by decide +kernel)) ggX1_askOne_X1_giversTo
set_option maxRecDepth 20000 in
theorem ggX1_askOne_X1_pickPiece : GoodIn wsX1_askOne wsX1_pickPiece := goodIn_r _ [46, 1, 2, 5, 6, 47, 48, 7, 29, 30, 31, 32, 33, 34, 35, 36, 37, 38, 39, 40, 41, 42, 49, 50, 51, 52, 53, 54, 55, 56, 57, 58, 59, 60, 61, 62, 63, 64, 65, 23, 66, 67, 4, 68, 69, 70, 71, 72, 73, 74, 75, 11, 76, 77, 78, 79, 80, 81, 82, 83, 84, 85, 86, 87, 17, 88, 19, 89, 90, 91, 92, 93, 94, 95, 96, 97, 98, 99, 100, 101, 102, 153, 154, 155, 156, 157, 158, 159, 160, 161, 162, 163, 164, 165, 166, 167, 168, 169, 170, 171, 172, 173, 174, 175, 176, 177, 195, 196, 197, 198, 199, 200, 185, 186, 187, 188, 189, 190, 191, 192, 193, 194, 178, 179, 180, 181, 182, 183, 184] (by decide +kernel) (by decide +kernel)
set_option maxRecDepth 20000 in
theorem gX1_askOne_X1_pickPiece : GoodIn wsX1_askOne (wsV RX1 102 RX1 yX1_pickPiece wsX1_pickPiece) := goodIn_app (goodIn_of _ (by decide +kernel)) ggX1_askOne_X1_pickPiece
set_option maxRecDepth 20000 in
theorem ggX1_askOne_X1_askAtEnd : GoodIn wsX1_askOne wsX1_askAtEnd := goodIn_r _ [106, 1, 2, 5, 48, 67, 6, 47, 7, 107, 4, 40, 41, 42, 68, 69, 70, 32, 71, 72, 34, 73, 74, 75, 11, 76, 77, 78, 79, 80, 108, 56, 57, 52, 58, 59, 60, 61, 62, 109, 110, 111, 17, 112, 19, 89, 90, 113, 91, 114, 115, 116, 23, 117, 25, 28, 118, 119, 120, 121, 122, 26, 123, 124, 3, 125, 126, 127, 128, 129, 130, 131, 54, 132, 133, 134, 135, 136, 137, 138, 139, 140, 141, 142, 143, 144, 145, 146, 147, 148, 149, 150, 151, 152, 15, 16, 18, 153, 154, 155, 156, 157, 158, 159, 160, 161, 162, 163, 164, 165, 166, 167, 168, 169, 170, 171, 172, 173, 174, 195, 196, 197, 198, 199, 200, 175, 176, 177, 178, 179, 180, 181, 182, 183, 184, 185, 186, 187, 188, 189, 190, 191, 192, 193, 194] (by decide +kernel) (by decide +kernel)
set_option maxRecDepth 20000 in
theorem gX1_askOne_X1_askAtEnd : GoodIn wsX1_askOne (wsV RX1 106 RX1 yX1_askAtEnd wsX1_askAtEnd) := goodIn_app (goodIn_of _ (by decide +kernel)) ggX1_askOne_X1_askAtEnd
set_option maxRecDepth 20000 in
theorem ggX1_askOne_X6_firstUnasked : GoodIn wsX1_askOne wsX6_firstUnasked := goodIn_r _ [53, 54, 55, 56, 57, 52, 58, 59, 60, 40, 41, 42, 61, 62, 195, 196, 197, 198, 199, 200] (by decide +kernel) (by decide +kernel)
set_option maxRecDepth 20000 in
theorem gX1_askOne_X6_firstUnasked : GoodIn wsX1_askOne (wsV RX1 112 RX6 yX6_firstUnasked wsX6_firstUnasked) := goodIn_app (goodIn_of _ (by decide +kernel)) ggX1_askOne_X6_firstUnasked
set_option maxRecDepth 20000 in
theorem ggX1_askOne_X1_giversThatMayBe : GoodIn wsX1_askOne wsX1_giversThatMayBe := goodIn_r _ [66, 1, 2, 5, 67, 4, 68, 69, 70, 32, 71, 72, 34, 40, 41, 42, 73, 74, 75, 11, 76, 77, 78, 79, 80, 81, 82, 83, 52, 84, 60, 61, 62, 85, 86, 87, 17, 88, 19, 89, 90, 91, 153, 154, 155, 156, 157, 158, 159, 160, 161, 162, 163, 164, 165, 166, 167, 168, 169, 170, 171, 172, 173, 174, 195, 196, 197, 198, 199, 200, 178, 179, 180, 181, 182, 183, 184] (by decide +kernel) (by decide +kernel)
set_option maxRecDepth 20000 in
theorem gX1_askOne_X1_giversThatMayBe : GoodIn wsX1_askOne (wsV RX1 115 RX1 yX1_giversThatMayBe wsX1_giversThatMayBe) := goodIn_app (goodIn_of _ (by decide +kernel)) ggX1_askOne_X1_giversThatMayBe
set_option maxRecDepth 20000 in
theorem ggX1_askOne_X1_readiest : GoodIn wsX1_askOne wsX1_readiest := goodIn_r _ [117, 1, 25, 2, 28, 40, 41, 42, 153, 154, 155, 156, 157, 158, 159, 160, 161, 162, 163, 164, 165, 166, 167, 168, 169, 170, 171, 172, 173, 174] (by decide +kernel) (by decide +kernel)
set_option maxRecDepth 20000 in
theorem gX1_askOne_X1_readiest : GoodIn wsX1_askOne (wsV RX1 119 RX1 yX1_readiest wsX1_readiest) := goodIn_app (goodIn_of _ (by decide +kernel)) ggX1_askOne_X1_readiest
set_option maxRecDepth 20000 in
theorem ggX1_askOne_X1_send : GoodIn wsX1_askOne wsX1_send := goodIn_r _ [121, 1, 2, 28, 122, 26, 123, 124, 3, 5, 125, 6, 126, 127, 4, 128, 129, 130, 52, 131, 54, 132, 61, 41, 62, 133, 134, 135, 136, 137, 138, 139, 140, 141, 142, 11, 143, 77, 144, 145, 146, 147, 148, 17, 149, 91, 19, 89, 90, 113, 150, 151, 152, 15, 16, 18, 153, 154, 155, 156, 157, 158, 159, 160, 161, 162, 163, 164, 165, 166, 167, 168, 169, 170, 171, 172, 173, 174, 185, 186, 187, 188, 189, 190, 191, 192, 193, 194, 195, 196, 197, 198, 199, 200, 175, 176, 177, 178, 179, 180, 181, 182, 183, 184] (by decide +kernel) (by decide +kernel)
set_option maxRecDepth 20000 in
theorem gX1_askOne_X1_send : GoodIn wsX1_askOne (wsV RX1 122 RX1 yX1_send wsX1_send) := goodIn_app (goodIn_of _ (by decide +kernel)) ggX1_askOne_X1_send
theorem dX1_askOne_0 : decode cX1_askOne 0 = .ok (.aload_n 0, 1) := by decide +kernel
theorem dX1_askOne_1 : decode cX1_askOne 1 = .ok (.getfield 9, 3) := by decide +kernel
theorem dX1_askOne_4 : decode cX1_askOne 4 = .ok (.getfield 28, 3) := by decide +kernel
theorem dX1_askOne_7 : decode cX1_askOne 7 = .ok (.iload_n 1, 1) := by decide +kernel
theorem dX1_askOne_8 : decode cX1_askOne 8 = .ok (.aaload, 1) := by decide +kernel
theorem dX1_askOne_9 : decode cX1_askOne 9 = .ok (.astore_n 2, 1) := by decide +kernel
theorem dX1_askOne_10 : decode cX1_askOne 10 = .ok (.aload_n 2, 1) := by decide +kernel
theorem dX1_askOne_11 : decode cX1_askOne 11 = .ok (.getfield 79, 3) := by decide +kernel
theorem dX1_askOne_14 : decode cX1_askOne 14 = .ok (.ifCond .le 23, 3) := by decide +kernel
theorem dX1_askOne_17 : decode cX1_askOne 17 = .ok (.aload_n 2, 1) := by decide +kernel
theorem dX1_askOne_18 : decode cX1_askOne 18 = .ok (.invokevirtual 86, 3) := by decide +kernel
theorem dX1_askOne_21 : decode cX1_askOne 21 = .ok (.ifCond .ne 16, 3) := by decide +kernel
theorem dX1_askOne_24 : decode cX1_askOne 24 = .ok (.aload_n 0, 1) := by decide +kernel
theorem dX1_askOne_25 : decode cX1_askOne 25 = .ok (.getfield 9, 3) := by decide +kernel
theorem dX1_askOne_28 : decode cX1_askOne 28 = .ok (.getfield 90, 3) := by decide +kernel
theorem dX1_askOne_31 : decode cX1_askOne 31 = .ok (.invokevirtual 94, 3) := by decide +kernel
theorem dX1_askOne_34 : decode cX1_askOne 34 = .ok (.ifCond .ne 5, 3) := by decide +kernel
theorem dX1_askOne_37 : decode cX1_askOne 37 = .ok (.iconst 0, 1) := by decide +kernel
theorem dX1_askOne_38 : decode cX1_askOne 38 = .ok (.ireturn, 1) := by decide +kernel
theorem dX1_askOne_39 : decode cX1_askOne 39 = .ok (.aload_n 0, 1) := by decide +kernel
theorem dX1_askOne_40 : decode cX1_askOne 40 = .ok (.iload_n 1, 1) := by decide +kernel
theorem dX1_askOne_41 : decode cX1_askOne 41 = .ok (.invokevirtual 99, 3) := by decide +kernel
theorem dX1_askOne_44 : decode cX1_askOne 44 = .ok (.istore_n 3, 1) := by decide +kernel
theorem dX1_askOne_45 : decode cX1_askOne 45 = .ok (.iload_n 3, 1) := by decide +kernel
theorem dX1_askOne_46 : decode cX1_askOne 46 = .ok (.ifCond .ne 5, 3) := by decide +kernel
theorem dX1_askOne_49 : decode cX1_askOne 49 = .ok (.iconst 0, 1) := by decide +kernel
theorem dX1_askOne_50 : decode cX1_askOne 50 = .ok (.ireturn, 1) := by decide +kernel
theorem dX1_askOne_51 : decode cX1_askOne 51 = .ok (.aload_n 0, 1) := by decide +kernel
theorem dX1_askOne_52 : decode cX1_askOne 52 = .ok (.iload_n 1, 1) := by decide +kernel
theorem dX1_askOne_53 : decode cX1_askOne 53 = .ok (.iload_n 3, 1) := by decide +kernel
theorem dX1_askOne_54 : decode cX1_askOne 54 = .ok (.invokevirtual 102, 3) := by decide +kernel
theorem dX1_askOne_57 : decode cX1_askOne 57 = .ok (.istore 4, 2) := by decide +kernel
theorem dX1_askOne_59 : decode cX1_askOne 59 = .ok (.iload 4, 2) := by decide +kernel
theorem dX1_askOne_61 : decode cX1_askOne 61 = .ok (.iconst (-1), 1) := by decide +kernel
theorem dX1_askOne_62 : decode cX1_askOne 62 = .ok (.if_icmp .ne 10, 3) := by decide +kernel
theorem dX1_askOne_65 : decode cX1_askOne 65 = .ok (.aload_n 0, 1) := by decide +kernel
theorem dX1_askOne_66 : decode cX1_askOne 66 = .ok (.iload_n 1, 1) := by decide +kernel
theorem dX1_askOne_67 : decode cX1_askOne 67 = .ok (.iload_n 3, 1) := by decide +kernel
theorem dX1_askOne_68 : decode cX1_askOne 68 = .ok (.invokevirtual 106, 3) := by decide +kernel
theorem dX1_askOne_71 : decode cX1_askOne 71 = .ok (.ireturn, 1) := by decide +kernel
theorem dX1_askOne_72 : decode cX1_askOne 72 = .ok (.aload_n 2, 1) := by decide +kernel
theorem dX1_askOne_73 : decode cX1_askOne 73 = .ok (.getfield 32, 3) := by decide +kernel
theorem dX1_askOne_76 : decode cX1_askOne 76 = .ok (.iload 4, 2) := by decide +kernel
theorem dX1_askOne_78 : decode cX1_askOne 78 = .ok (.aload_n 0, 1) := by decide +kernel
theorem dX1_askOne_79 : decode cX1_askOne 79 = .ok (.getfield 9, 3) := by decide +kernel
theorem dX1_askOne_82 : decode cX1_askOne 82 = .ok (.getfield 54, 3) := by decide +kernel
theorem dX1_askOne_85 : decode cX1_askOne 85 = .ok (.getfield 109, 3) := by decide +kernel
theorem dX1_askOne_88 : decode cX1_askOne 88 = .ok (.invokevirtual 112, 3) := by decide +kernel
theorem dX1_askOne_91 : decode cX1_askOne 91 = .ok (.istore 5, 2) := by decide +kernel
theorem dX1_askOne_93 : decode cX1_askOne 93 = .ok (.aload_n 0, 1) := by decide +kernel
theorem dX1_askOne_94 : decode cX1_askOne 94 = .ok (.aload_n 0, 1) := by decide +kernel
theorem dX1_askOne_95 : decode cX1_askOne 95 = .ok (.aload_n 0, 1) := by decide +kernel
theorem dX1_askOne_96 : decode cX1_askOne 96 = .ok (.iload_n 1, 1) := by decide +kernel
theorem dX1_askOne_97 : decode cX1_askOne 97 = .ok (.iload 4, 2) := by decide +kernel
theorem dX1_askOne_99 : decode cX1_askOne 99 = .ok (.iload_n 3, 1) := by decide +kernel
theorem dX1_askOne_100 : decode cX1_askOne 100 = .ok (.invokevirtual 115, 3) := by decide +kernel
theorem dX1_askOne_103 : decode cX1_askOne 103 = .ok (.invokevirtual 119, 3) := by decide +kernel
theorem dX1_askOne_106 : decode cX1_askOne 106 = .ok (.iload_n 1, 1) := by decide +kernel
theorem dX1_askOne_107 : decode cX1_askOne 107 = .ok (.iload 4, 2) := by decide +kernel
theorem dX1_askOne_109 : decode cX1_askOne 109 = .ok (.iload 5, 2) := by decide +kernel
theorem dX1_askOne_111 : decode cX1_askOne 111 = .ok (.invokevirtual 122, 3) := by decide +kernel
theorem dX1_askOne_114 : decode cX1_askOne 114 = .ok (.ireturn, 1) := by decide +kernel
set_option maxRecDepth 20000 in
theorem ggX1_giversTo_X2_nearTo : GoodIn wsX1_giversTo wsX2_nearTo := goodIn_r _ [11, 12, 13, 14, 15, 16, 17, 18, 19, 20, 22, 23, 24, 25, 26, 27, 28, 29, 30, 31, 32, 33, 34, 35, 36, 37, 38, 39, 40, 41, 42, 43, 44, 45, 46, 47, 48, 49, 50, 51, 52] (by decide +kernel) (by decide +kernel)
set_option maxRecDepth 20000 in
theorem gX1_giversTo_X2_nearTo : GoodIn wsX1_giversTo (wsV RX1 38 RX2 yX2_nearTo wsX2_nearTo) := goodIn_app (goodIn_of _ (by decide +kernel)) ggX1_giversTo_X2_nearTo
set_option maxRecDepth 20000 in
theorem ggX1_giversTo_X9_isIn : GoodIn wsX1_giversTo wsX9_isIn := goodIn_r _ [20] (by decide +kernel) (by decide +kernel)
set_option maxRecDepth 20000 in
theorem gX1_giversTo_X9_isIn_n24 : GoodIn wsX1_giversTo (wsX9_isIn) := ggX1_giversTo_X9_isIn
theorem dX1_giversTo_0 : decode cX1_giversTo 0 = .ok (.aload_n 0, 1) := by decide +kernel
theorem dX1_giversTo_1 : decode cX1_giversTo 1 = .ok (.getfield 9, 3) := by decide +kernel
theorem dX1_giversTo_4 : decode cX1_giversTo 4 = .ok (.iload_n 1, 1) := by decide +kernel
theorem dX1_giversTo_5 : decode cX1_giversTo 5 = .ok (.invokevirtual 38, 3) := by decide +kernel
theorem dX1_giversTo_8 : decode cX1_giversTo 8 = .ok (.istore_n 2, 1) := by decide +kernel
theorem dX1_giversTo_9 : decode cX1_giversTo 9 = .ok (.iconst 0, 1) := by decide +kernel
theorem dX1_giversTo_10 : decode cX1_giversTo 10 = .ok (.istore_n 3, 1) := by decide +kernel
theorem dX1_giversTo_11 : decode cX1_giversTo 11 = .ok (.iconst 0, 1) := by decide +kernel
theorem dX1_giversTo_12 : decode cX1_giversTo 12 = .ok (.istore 4, 2) := by decide +kernel
theorem dX1_giversTo_14 : decode cX1_giversTo 14 = .ok (.iload_n 2, 1) := by decide +kernel
theorem dX1_giversTo_15 : decode cX1_giversTo 15 = .ok (.ifCond .eq 72, 3) := by decide +kernel
theorem dX1_giversTo_18 : decode cX1_giversTo 18 = .ok (.iload 4, 2) := by decide +kernel
theorem dX1_giversTo_20 : decode cX1_giversTo 20 = .ok (.aload_n 0, 1) := by decide +kernel
theorem dX1_giversTo_21 : decode cX1_giversTo 21 = .ok (.getfield 9, 3) := by decide +kernel
theorem dX1_giversTo_24 : decode cX1_giversTo 24 = .ok (.getfield 15, 3) := by decide +kernel
theorem dX1_giversTo_27 : decode cX1_giversTo 27 = .ok (.if_icmp .ge 60, 3) := by decide +kernel
theorem dX1_giversTo_30 : decode cX1_giversTo 30 = .ok (.aload_n 0, 1) := by decide +kernel
theorem dX1_giversTo_31 : decode cX1_giversTo 31 = .ok (.getfield 9, 3) := by decide +kernel
theorem dX1_giversTo_34 : decode cX1_giversTo 34 = .ok (.getfield 28, 3) := by decide +kernel
theorem dX1_giversTo_37 : decode cX1_giversTo 37 = .ok (.iload 4, 2) := by decide +kernel
theorem dX1_giversTo_39 : decode cX1_giversTo 39 = .ok (.aaload, 1) := by decide +kernel
theorem dX1_giversTo_40 : decode cX1_giversTo 40 = .ok (.astore 5, 2) := by decide +kernel
theorem dX1_giversTo_42 : decode cX1_giversTo 42 = .ok (.iload_n 2, 1) := by decide +kernel
theorem dX1_giversTo_43 : decode cX1_giversTo 43 = .ok (.iload 4, 2) := by decide +kernel
theorem dX1_giversTo_45 : decode cX1_giversTo 45 = .ok (.invokestatic 24, 3) := by decide +kernel
theorem dX1_giversTo_48 : decode cX1_giversTo 48 = .ok (.ifCond .eq 33, 3) := by decide +kernel
theorem dX1_giversTo_51 : decode cX1_giversTo 51 = .ok (.aload 5, 2) := by decide +kernel
theorem dX1_giversTo_53 : decode cX1_giversTo 53 = .ok (.getfield 126, 3) := by decide +kernel
theorem dX1_giversTo_56 : decode cX1_giversTo 56 = .ok (.getfield 130, 3) := by decide +kernel
theorem dX1_giversTo_59 : decode cX1_giversTo 59 = .ok (.iload_n 1, 1) := by decide +kernel
theorem dX1_giversTo_60 : decode cX1_giversTo 60 = .ok (.invokestatic 24, 3) := by decide +kernel
theorem dX1_giversTo_63 : decode cX1_giversTo 63 = .ok (.ifCond .eq 18, 3) := by decide +kernel
theorem dX1_giversTo_66 : decode cX1_giversTo 66 = .ok (.aload 5, 2) := by decide +kernel
theorem dX1_giversTo_68 : decode cX1_giversTo 68 = .ok (.getfield 73, 3) := by decide +kernel
theorem dX1_giversTo_71 : decode cX1_giversTo 71 = .ok (.ifCond .le 10, 3) := by decide +kernel
theorem dX1_giversTo_74 : decode cX1_giversTo 74 = .ok (.iload_n 3, 1) := by decide +kernel
theorem dX1_giversTo_75 : decode cX1_giversTo 75 = .ok (.iconst 1, 1) := by decide +kernel
theorem dX1_giversTo_76 : decode cX1_giversTo 76 = .ok (.iload 4, 2) := by decide +kernel
theorem dX1_giversTo_78 : decode cX1_giversTo 78 = .ok (.ishl, 1) := by decide +kernel
theorem dX1_giversTo_79 : decode cX1_giversTo 79 = .ok (.ior, 1) := by decide +kernel
theorem dX1_giversTo_80 : decode cX1_giversTo 80 = .ok (.istore_n 3, 1) := by decide +kernel
theorem dX1_giversTo_81 : decode cX1_giversTo 81 = .ok (.iinc 4 1, 3) := by decide +kernel
theorem dX1_giversTo_84 : decode cX1_giversTo 84 = .ok (.goto (-70), 3) := by decide +kernel
theorem dX1_giversTo_87 : decode cX1_giversTo 87 = .ok (.iload_n 3, 1) := by decide +kernel
theorem dX1_giversTo_88 : decode cX1_giversTo 88 = .ok (.ireturn, 1) := by decide +kernel
set_option maxRecDepth 20000 in
theorem ggX1_pickPiece_X2_nearTo : GoodIn wsX1_pickPiece wsX2_nearTo := goodIn_r _ [12, 13, 14, 15, 16, 17, 18, 19, 20, 21, 82, 83, 84, 85, 86, 87, 88, 89, 90, 91, 92, 93, 94, 95, 96, 97, 98, 99, 100, 101, 102, 112, 113, 114, 115, 116, 117, 118, 119, 120, 121] (by decide +kernel) (by decide +kernel)
set_option maxRecDepth 20000 in
theorem gX1_pickPiece_X2_nearTo : GoodIn wsX1_pickPiece (wsV RX1 38 RX2 yX2_nearTo wsX2_nearTo) := goodIn_app (goodIn_of _ (by decide +kernel)) ggX1_pickPiece_X2_nearTo
set_option maxRecDepth 20000 in
theorem ggX1_pickPiece_X9_isIn : GoodIn wsX1_pickPiece wsX9_isIn := goodIn_r _ [21] (by decide +kernel) (by decide +kernel)
set_option maxRecDepth 20000 in
theorem gX1_pickPiece_X9_isIn_n24 : GoodIn wsX1_pickPiece (wsX9_isIn) := ggX1_pickPiece_X9_isIn
set_option maxRecDepth 20000 in
theorem ggX1_pickPiece_X6_firstUnasked : GoodIn wsX1_pickPiece wsX6_firstUnasked := goodIn_r _ [26, 27, 28, 29, 30, 25, 31, 32, 33, 19, 20, 21, 34, 35, 106, 107, 108, 109, 110, 111] (by decide +kernel) (by decide +kernel)
set_option maxRecDepth 20000 in
theorem gX1_pickPiece_X6_firstUnasked : GoodIn wsX1_pickPiece (wsV RX1 112 RX6 yX6_firstUnasked wsX6_firstUnasked) := goodIn_app (goodIn_of _ (by decide +kernel)) ggX1_pickPiece_X6_firstUnasked
set_option maxRecDepth 20000 in
theorem ggX1_pickPiece_X1_giversThatMayBe : GoodIn wsX1_pickPiece wsX1_giversThatMayBe := goodIn_r _ [40, 1, 2, 3, 41, 42, 43, 44, 45, 11, 46, 47, 13, 19, 20, 21, 48, 49, 50, 51, 52, 53, 54, 55, 56, 57, 58, 59, 25, 60, 33, 34, 35, 61, 62, 63, 64, 65, 66, 67, 68, 69, 81, 82, 83, 84, 85, 86, 87, 88, 89, 90, 91, 92, 93, 94, 95, 96, 97, 98, 99, 100, 101, 102, 106, 107, 108, 109, 110, 111, 122, 123, 124, 125, 126, 127, 128] (by decide +kernel) (by decide +kernel)
set_option maxRecDepth 20000 in
theorem gX1_pickPiece_X1_giversThatMayBe : GoodIn wsX1_pickPiece (wsV RX1 115 RX1 yX1_giversThatMayBe wsX1_giversThatMayBe) := goodIn_app (goodIn_of _ (by decide +kernel)) ggX1_pickPiece_X1_giversThatMayBe
set_option maxRecDepth 20000 in
theorem ggX1_pickPiece_X2_tellersAmong : GoodIn wsX1_pickPiece wsX2_tellersAmong := goodIn_r _ [46, 47, 13, 19, 20, 21, 48, 49, 50, 51, 52, 53, 54, 55, 56, 82, 83, 84, 85, 86, 87, 88, 89, 90, 91, 92, 93, 94, 95, 96, 97, 98, 99, 100, 101, 102, 106, 107, 108, 109, 110, 111] (by decide +kernel) (by decide +kernel)
set_option maxRecDepth 20000 in
theorem gX1_pickPiece_X2_tellersAmong : GoodIn wsX1_pickPiece (wsV RX1 135 RX2 yX2_tellersAmong wsX2_tellersAmong) := goodIn_app (goodIn_of _ (by decide +kernel)) ggX1_pickPiece_X2_tellersAmong
set_option maxRecDepth 20000 in
theorem ggX1_pickPiece_J6_bitCount_0f7a4 : GoodIn wsX1_pickPiece wsJ6_bitCount_0f7a4 := goodIn_r _ [73, 74, 75, 76] (by decide +kernel) (by decide +kernel)
set_option maxRecDepth 20000 in
theorem gX1_pickPiece_J6_bitCount_0f7a4 : GoodIn wsX1_pickPiece (va_wsS RX1 138 yJ6_bitCount_0f7a4 wsJ6_bitCount_0f7a4) := goodIn_app (goodIn_of _ (by decide +kernel)) ggX1_pickPiece_J6_bitCount_0f7a4
set_option maxRecDepth 20000 in
theorem ggX1_pickPiece_X6_isBegun : GoodIn wsX1_pickPiece wsX6_isBegun := goodIn_r _ [80, 27, 28, 29, 30, 25, 31, 32, 33, 19, 20, 21, 34, 35, 106, 107, 108, 109, 110, 111] (by decide +kernel) (by decide +kernel)
set_option maxRecDepth 20000 in
theorem gX1_pickPiece_X6_isBegun : GoodIn wsX1_pickPiece (wsV RX1 143 RX6 yX6_isBegun wsX6_isBegun) := goodIn_app (goodIn_of _ (by decide +kernel)) ggX1_pickPiece_X6_isBegun
theorem dX1_pickPiece_0 : decode cX1_pickPiece 0 = .ok (.aload_n 0, 1) := by decide +kernel
theorem dX1_pickPiece_1 : decode cX1_pickPiece 1 = .ok (.getfield 9, 3) := by decide +kernel
theorem dX1_pickPiece_4 : decode cX1_pickPiece 4 = .ok (.getfield 28, 3) := by decide +kernel
theorem dX1_pickPiece_7 : decode cX1_pickPiece 7 = .ok (.iload_n 1, 1) := by decide +kernel
theorem dX1_pickPiece_8 : decode cX1_pickPiece 8 = .ok (.aaload, 1) := by decide +kernel
theorem dX1_pickPiece_9 : decode cX1_pickPiece 9 = .ok (.getfield 32, 3) := by decide +kernel
theorem dX1_pickPiece_12 : decode cX1_pickPiece 12 = .ok (.astore_n 3, 1) := by decide +kernel
theorem dX1_pickPiece_13 : decode cX1_pickPiece 13 = .ok (.aload_n 0, 1) := by decide +kernel
theorem dX1_pickPiece_14 : decode cX1_pickPiece 14 = .ok (.getfield 9, 3) := by decide +kernel
theorem dX1_pickPiece_17 : decode cX1_pickPiece 17 = .ok (.iload_n 1, 1) := by decide +kernel
theorem dX1_pickPiece_18 : decode cX1_pickPiece 18 = .ok (.invokevirtual 38, 3) := by decide +kernel
theorem dX1_pickPiece_21 : decode cX1_pickPiece 21 = .ok (.istore 4, 2) := by decide +kernel
theorem dX1_pickPiece_23 : decode cX1_pickPiece 23 = .ok (.iconst (-1), 1) := by decide +kernel
theorem dX1_pickPiece_24 : decode cX1_pickPiece 24 = .ok (.istore 5, 2) := by decide +kernel
theorem dX1_pickPiece_26 : decode cX1_pickPiece 26 = .ok (.iconst 0, 1) := by decide +kernel
theorem dX1_pickPiece_27 : decode cX1_pickPiece 27 = .ok (.istore 6, 2) := by decide +kernel
theorem dX1_pickPiece_29 : decode cX1_pickPiece 29 = .ok (.iconst 0, 1) := by decide +kernel
theorem dX1_pickPiece_30 : decode cX1_pickPiece 30 = .ok (.istore 7, 2) := by decide +kernel
theorem dX1_pickPiece_32 : decode cX1_pickPiece 32 = .ok (.iload 7, 2) := by decide +kernel
theorem dX1_pickPiece_34 : decode cX1_pickPiece 34 = .ok (.aload_n 0, 1) := by decide +kernel
theorem dX1_pickPiece_35 : decode cX1_pickPiece 35 = .ok (.getfield 9, 3) := by decide +kernel
theorem dX1_pickPiece_38 : decode cX1_pickPiece 38 = .ok (.getfield 54, 3) := by decide +kernel
theorem dX1_pickPiece_41 : decode cX1_pickPiece 41 = .ok (.getfield 58, 3) := by decide +kernel
theorem dX1_pickPiece_44 : decode cX1_pickPiece 44 = .ok (.if_icmp .ge 113, 3) := by decide +kernel
theorem dX1_pickPiece_47 : decode cX1_pickPiece 47 = .ok (.aload_n 3, 1) := by decide +kernel
theorem dX1_pickPiece_48 : decode cX1_pickPiece 48 = .ok (.getfield 51, 3) := by decide +kernel
theorem dX1_pickPiece_51 : decode cX1_pickPiece 51 = .ok (.iload 7, 2) := by decide +kernel
theorem dX1_pickPiece_53 : decode cX1_pickPiece 53 = .ok (.invokestatic 24, 3) := by decide +kernel
theorem dX1_pickPiece_56 : decode cX1_pickPiece 56 = .ok (.ifCond .ne 95, 3) := by decide +kernel
theorem dX1_pickPiece_59 : decode cX1_pickPiece 59 = .ok (.aload_n 3, 1) := by decide +kernel
theorem dX1_pickPiece_60 : decode cX1_pickPiece 60 = .ok (.iload 7, 2) := by decide +kernel
theorem dX1_pickPiece_62 : decode cX1_pickPiece 62 = .ok (.aload_n 0, 1) := by decide +kernel
theorem dX1_pickPiece_63 : decode cX1_pickPiece 63 = .ok (.getfield 9, 3) := by decide +kernel
theorem dX1_pickPiece_66 : decode cX1_pickPiece 66 = .ok (.getfield 54, 3) := by decide +kernel
theorem dX1_pickPiece_69 : decode cX1_pickPiece 69 = .ok (.getfield 109, 3) := by decide +kernel
theorem dX1_pickPiece_72 : decode cX1_pickPiece 72 = .ok (.invokevirtual 112, 3) := by decide +kernel
theorem dX1_pickPiece_75 : decode cX1_pickPiece 75 = .ok (.iconst (-1), 1) := by decide +kernel
theorem dX1_pickPiece_76 : decode cX1_pickPiece 76 = .ok (.if_icmp .eq 75, 3) := by decide +kernel
theorem dX1_pickPiece_79 : decode cX1_pickPiece 79 = .ok (.aload_n 0, 1) := by decide +kernel
theorem dX1_pickPiece_80 : decode cX1_pickPiece 80 = .ok (.iload_n 1, 1) := by decide +kernel
theorem dX1_pickPiece_81 : decode cX1_pickPiece 81 = .ok (.iload 7, 2) := by decide +kernel
theorem dX1_pickPiece_83 : decode cX1_pickPiece 83 = .ok (.iload_n 2, 1) := by decide +kernel
theorem dX1_pickPiece_84 : decode cX1_pickPiece 84 = .ok (.invokevirtual 115, 3) := by decide +kernel
theorem dX1_pickPiece_87 : decode cX1_pickPiece 87 = .ok (.ifCond .ne 6, 3) := by decide +kernel
theorem dX1_pickPiece_90 : decode cX1_pickPiece 90 = .ok (.goto 61, 3) := by decide +kernel
theorem dX1_pickPiece_93 : decode cX1_pickPiece 93 = .ok (.aload_n 0, 1) := by decide +kernel
theorem dX1_pickPiece_94 : decode cX1_pickPiece 94 = .ok (.getfield 9, 3) := by decide +kernel
theorem dX1_pickPiece_97 : decode cX1_pickPiece 97 = .ok (.iload 4, 2) := by decide +kernel
theorem dX1_pickPiece_99 : decode cX1_pickPiece 99 = .ok (.iload 7, 2) := by decide +kernel
theorem dX1_pickPiece_101 : decode cX1_pickPiece 101 = .ok (.invokevirtual 135, 3) := by decide +kernel
theorem dX1_pickPiece_104 : decode cX1_pickPiece 104 = .ok (.invokestatic 138, 3) := by decide +kernel
theorem dX1_pickPiece_107 : decode cX1_pickPiece 107 = .ok (.istore 8, 2) := by decide +kernel
theorem dX1_pickPiece_109 : decode cX1_pickPiece 109 = .ok (.aload_n 3, 1) := by decide +kernel
theorem dX1_pickPiece_110 : decode cX1_pickPiece 110 = .ok (.iload 7, 2) := by decide +kernel
theorem dX1_pickPiece_112 : decode cX1_pickPiece 112 = .ok (.invokevirtual 143, 3) := by decide +kernel
theorem dX1_pickPiece_115 : decode cX1_pickPiece 115 = .ok (.ifCond .eq 8, 3) := by decide +kernel
theorem dX1_pickPiece_118 : decode cX1_pickPiece 118 = .ok (.iload 8, 2) := by decide +kernel
theorem dX1_pickPiece_120 : decode cX1_pickPiece 120 = .ok (.goto 8, 3) := by decide +kernel
theorem dX1_pickPiece_123 : decode cX1_pickPiece 123 = .ok (.iload 8, 2) := by decide +kernel
theorem dX1_pickPiece_125 : decode cX1_pickPiece 125 = .ok (.bipush 13, 2) := by decide +kernel
theorem dX1_pickPiece_127 : decode cX1_pickPiece 127 = .ok (.iadd, 1) := by decide +kernel
theorem dX1_pickPiece_128 : decode cX1_pickPiece 128 = .ok (.istore 9, 2) := by decide +kernel
theorem dX1_pickPiece_130 : decode cX1_pickPiece 130 = .ok (.iload 5, 2) := by decide +kernel
theorem dX1_pickPiece_132 : decode cX1_pickPiece 132 = .ok (.iconst (-1), 1) := by decide +kernel
theorem dX1_pickPiece_133 : decode cX1_pickPiece 133 = .ok (.if_icmp .eq 10, 3) := by decide +kernel
theorem dX1_pickPiece_136 : decode cX1_pickPiece 136 = .ok (.iload 9, 2) := by decide +kernel
theorem dX1_pickPiece_138 : decode cX1_pickPiece 138 = .ok (.iload 6, 2) := by decide +kernel
theorem dX1_pickPiece_140 : decode cX1_pickPiece 140 = .ok (.if_icmp .ge 11, 3) := by decide +kernel
theorem dX1_pickPiece_143 : decode cX1_pickPiece 143 = .ok (.iload 7, 2) := by decide +kernel
theorem dX1_pickPiece_145 : decode cX1_pickPiece 145 = .ok (.istore 5, 2) := by decide +kernel
theorem dX1_pickPiece_147 : decode cX1_pickPiece 147 = .ok (.iload 9, 2) := by decide +kernel
theorem dX1_pickPiece_149 : decode cX1_pickPiece 149 = .ok (.istore 6, 2) := by decide +kernel
theorem dX1_pickPiece_151 : decode cX1_pickPiece 151 = .ok (.iinc 7 1, 3) := by decide +kernel
theorem dX1_pickPiece_154 : decode cX1_pickPiece 154 = .ok (.goto (-122), 3) := by decide +kernel
theorem dX1_pickPiece_157 : decode cX1_pickPiece 157 = .ok (.iload 5, 2) := by decide +kernel
theorem dX1_pickPiece_159 : decode cX1_pickPiece 159 = .ok (.ireturn, 1) := by decide +kernel
set_option maxRecDepth 20000 in
theorem ggX1_giversThatMayBe_X2_tellersAmong : GoodIn wsX1_giversThatMayBe wsX2_tellersAmong := goodIn_r _ [10, 11, 12, 13, 14, 15, 16, 17, 18, 19, 20, 21, 22, 23, 24, 43, 44, 45, 46, 47, 48, 49, 50, 51, 52, 53, 54, 55, 56, 57, 58, 59, 60, 61, 62, 63, 64, 65, 66, 67, 68, 69] (by decide +kernel) (by decide +kernel)
set_option maxRecDepth 20000 in
theorem gX1_giversThatMayBe_X2_tellersAmong : GoodIn wsX1_giversThatMayBe (wsV RX1 135 RX2 yX2_tellersAmong wsX2_tellersAmong) := goodIn_app (goodIn_of _ (by decide +kernel)) ggX1_giversThatMayBe_X2_tellersAmong
set_option maxRecDepth 20000 in
theorem ggX1_giversThatMayBe_X9_isIn : GoodIn wsX1_giversThatMayBe wsX9_isIn := goodIn_r _ [15] (by decide +kernel) (by decide +kernel)
set_option maxRecDepth 20000 in
theorem gX1_giversThatMayBe_X9_isIn_n24 : GoodIn wsX1_giversThatMayBe (wsX9_isIn) := ggX1_giversThatMayBe_X9_isIn
set_option maxRecDepth 20000 in
theorem ggX1_giversThatMayBe_X6_firstGiver : GoodIn wsX1_giversThatMayBe wsX6_firstGiver := goodIn_r _ [29, 30, 31, 14, 32, 64, 65, 66, 67, 68, 69] (by decide +kernel) (by decide +kernel)
set_option maxRecDepth 20000 in
theorem gX1_giversThatMayBe_X6_firstGiver : GoodIn wsX1_giversThatMayBe (wsV RX1 146 RX6 yX6_firstGiver wsX6_firstGiver) := goodIn_app (goodIn_of _ (by decide +kernel)) ggX1_giversThatMayBe_X6_firstGiver
set_option maxRecDepth 20000 in
theorem ggX1_giversThatMayBe_X5_firstGiver : GoodIn wsX1_giversThatMayBe wsX5_firstGiver := goodIn_r _ [37, 38, 39, 40, 41, 70, 71, 72, 73, 74, 75, 76] (by decide +kernel) (by decide +kernel)
set_option maxRecDepth 20000 in
theorem gX1_giversThatMayBe_X5_firstGiver : GoodIn wsX1_giversThatMayBe (wsV RX1 149 RX5 yX5_firstGiver wsX5_firstGiver) := goodIn_app (goodIn_of _ (by decide +kernel)) ggX1_giversThatMayBe_X5_firstGiver
theorem dX1_giversThatMayBe_0 : decode cX1_giversThatMayBe 0 = .ok (.aload_n 0, 1) := by decide +kernel
theorem dX1_giversThatMayBe_1 : decode cX1_giversThatMayBe 1 = .ok (.getfield 9, 3) := by decide +kernel
theorem dX1_giversThatMayBe_4 : decode cX1_giversThatMayBe 4 = .ok (.iload_n 3, 1) := by decide +kernel
theorem dX1_giversThatMayBe_5 : decode cX1_giversThatMayBe 5 = .ok (.iload_n 2, 1) := by decide +kernel
theorem dX1_giversThatMayBe_6 : decode cX1_giversThatMayBe 6 = .ok (.invokevirtual 135, 3) := by decide +kernel
theorem dX1_giversThatMayBe_9 : decode cX1_giversThatMayBe 9 = .ok (.istore 4, 2) := by decide +kernel
theorem dX1_giversThatMayBe_11 : decode cX1_giversThatMayBe 11 = .ok (.aload_n 0, 1) := by decide +kernel
theorem dX1_giversThatMayBe_12 : decode cX1_giversThatMayBe 12 = .ok (.getfield 9, 3) := by decide +kernel
theorem dX1_giversThatMayBe_15 : decode cX1_giversThatMayBe 15 = .ok (.getfield 28, 3) := by decide +kernel
theorem dX1_giversThatMayBe_18 : decode cX1_giversThatMayBe 18 = .ok (.iload_n 1, 1) := by decide +kernel
theorem dX1_giversThatMayBe_19 : decode cX1_giversThatMayBe 19 = .ok (.aaload, 1) := by decide +kernel
theorem dX1_giversThatMayBe_20 : decode cX1_giversThatMayBe 20 = .ok (.getfield 32, 3) := by decide +kernel
theorem dX1_giversThatMayBe_23 : decode cX1_giversThatMayBe 23 = .ok (.astore 5, 2) := by decide +kernel
theorem dX1_giversThatMayBe_25 : decode cX1_giversThatMayBe 25 = .ok (.aload 5, 2) := by decide +kernel
theorem dX1_giversThatMayBe_27 : decode cX1_giversThatMayBe 27 = .ok (.getfield 46, 3) := by decide +kernel
theorem dX1_giversThatMayBe_30 : decode cX1_giversThatMayBe 30 = .ok (.iload_n 2, 1) := by decide +kernel
theorem dX1_giversThatMayBe_31 : decode cX1_giversThatMayBe 31 = .ok (.invokestatic 24, 3) := by decide +kernel
theorem dX1_giversThatMayBe_34 : decode cX1_giversThatMayBe 34 = .ok (.ifCond .ne 6, 3) := by decide +kernel
theorem dX1_giversThatMayBe_37 : decode cX1_giversThatMayBe 37 = .ok (.iload 4, 2) := by decide +kernel
theorem dX1_giversThatMayBe_39 : decode cX1_giversThatMayBe 39 = .ok (.ireturn, 1) := by decide +kernel
theorem dX1_giversThatMayBe_40 : decode cX1_giversThatMayBe 40 = .ok (.aload 5, 2) := by decide +kernel
theorem dX1_giversThatMayBe_42 : decode cX1_giversThatMayBe 42 = .ok (.iload_n 2, 1) := by decide +kernel
theorem dX1_giversThatMayBe_43 : decode cX1_giversThatMayBe 43 = .ok (.invokevirtual 146, 3) := by decide +kernel
theorem dX1_giversThatMayBe_46 : decode cX1_giversThatMayBe 46 = .ok (.istore 6, 2) := by decide +kernel
theorem dX1_giversThatMayBe_48 : decode cX1_giversThatMayBe 48 = .ok (.iload 6, 2) := by decide +kernel
theorem dX1_giversThatMayBe_50 : decode cX1_giversThatMayBe 50 = .ok (.iconst (-1), 1) := by decide +kernel
theorem dX1_giversThatMayBe_51 : decode cX1_giversThatMayBe 51 = .ok (.if_icmp .ne 17, 3) := by decide +kernel
theorem dX1_giversThatMayBe_54 : decode cX1_giversThatMayBe 54 = .ok (.aload_n 0, 1) := by decide +kernel
theorem dX1_giversThatMayBe_55 : decode cX1_giversThatMayBe 55 = .ok (.getfield 9, 3) := by decide +kernel
theorem dX1_giversThatMayBe_58 : decode cX1_giversThatMayBe 58 = .ok (.getfield 90, 3) := by decide +kernel
theorem dX1_giversThatMayBe_61 : decode cX1_giversThatMayBe 61 = .ok (.iload_n 1, 1) := by decide +kernel
theorem dX1_giversThatMayBe_62 : decode cX1_giversThatMayBe 62 = .ok (.iload_n 2, 1) := by decide +kernel
theorem dX1_giversThatMayBe_63 : decode cX1_giversThatMayBe 63 = .ok (.invokevirtual 149, 3) := by decide +kernel
theorem dX1_giversThatMayBe_66 : decode cX1_giversThatMayBe 66 = .ok (.istore 6, 2) := by decide +kernel
theorem dX1_giversThatMayBe_68 : decode cX1_giversThatMayBe 68 = .ok (.iload 6, 2) := by decide +kernel
theorem dX1_giversThatMayBe_70 : decode cX1_giversThatMayBe 70 = .ok (.iconst (-1), 1) := by decide +kernel
theorem dX1_giversThatMayBe_71 : decode cX1_giversThatMayBe 71 = .ok (.if_icmp .ne 8, 3) := by decide +kernel
theorem dX1_giversThatMayBe_74 : decode cX1_giversThatMayBe 74 = .ok (.iload 4, 2) := by decide +kernel
theorem dX1_giversThatMayBe_76 : decode cX1_giversThatMayBe 76 = .ok (.goto 10, 3) := by decide +kernel
theorem dX1_giversThatMayBe_79 : decode cX1_giversThatMayBe 79 = .ok (.iload 4, 2) := by decide +kernel
theorem dX1_giversThatMayBe_81 : decode cX1_giversThatMayBe 81 = .ok (.iconst 1, 1) := by decide +kernel
theorem dX1_giversThatMayBe_82 : decode cX1_giversThatMayBe 82 = .ok (.iload 6, 2) := by decide +kernel
theorem dX1_giversThatMayBe_84 : decode cX1_giversThatMayBe 84 = .ok (.ishl, 1) := by decide +kernel
theorem dX1_giversThatMayBe_85 : decode cX1_giversThatMayBe 85 = .ok (.iand, 1) := by decide +kernel
theorem dX1_giversThatMayBe_86 : decode cX1_giversThatMayBe 86 = .ok (.ireturn, 1) := by decide +kernel
set_option maxRecDepth 20000 in
theorem ggX1_readiest_X9_isIn : GoodIn wsX1_readiest wsX9_isIn := goodIn_r _ [7] (by decide +kernel) (by decide +kernel)
set_option maxRecDepth 20000 in
theorem gX1_readiest_X9_isIn_n24 : GoodIn wsX1_readiest (wsX9_isIn) := ggX1_readiest_X9_isIn
theorem dX1_readiest_0 : decode cX1_readiest 0 = .ok (.iconst (-1), 1) := by decide +kernel
theorem dX1_readiest_1 : decode cX1_readiest 1 = .ok (.istore_n 2, 1) := by decide +kernel
theorem dX1_readiest_2 : decode cX1_readiest 2 = .ok (.iconst 0, 1) := by decide +kernel
theorem dX1_readiest_3 : decode cX1_readiest 3 = .ok (.istore_n 3, 1) := by decide +kernel
theorem dX1_readiest_4 : decode cX1_readiest 4 = .ok (.iload_n 3, 1) := by decide +kernel
theorem dX1_readiest_5 : decode cX1_readiest 5 = .ok (.aload_n 0, 1) := by decide +kernel
theorem dX1_readiest_6 : decode cX1_readiest 6 = .ok (.getfield 9, 3) := by decide +kernel
theorem dX1_readiest_9 : decode cX1_readiest 9 = .ok (.getfield 15, 3) := by decide +kernel
theorem dX1_readiest_12 : decode cX1_readiest 12 = .ok (.if_icmp .ge 51, 3) := by decide +kernel
theorem dX1_readiest_15 : decode cX1_readiest 15 = .ok (.iload_n 1, 1) := by decide +kernel
theorem dX1_readiest_16 : decode cX1_readiest 16 = .ok (.iload_n 3, 1) := by decide +kernel
theorem dX1_readiest_17 : decode cX1_readiest 17 = .ok (.invokestatic 24, 3) := by decide +kernel
theorem dX1_readiest_20 : decode cX1_readiest 20 = .ok (.ifCond .eq 37, 3) := by decide +kernel
theorem dX1_readiest_23 : decode cX1_readiest 23 = .ok (.iload_n 2, 1) := by decide +kernel
theorem dX1_readiest_24 : decode cX1_readiest 24 = .ok (.iconst (-1), 1) := by decide +kernel
theorem dX1_readiest_25 : decode cX1_readiest 25 = .ok (.if_icmp .eq 30, 3) := by decide +kernel
theorem dX1_readiest_28 : decode cX1_readiest 28 = .ok (.aload_n 0, 1) := by decide +kernel
theorem dX1_readiest_29 : decode cX1_readiest 29 = .ok (.getfield 9, 3) := by decide +kernel
theorem dX1_readiest_32 : decode cX1_readiest 32 = .ok (.getfield 28, 3) := by decide +kernel
theorem dX1_readiest_35 : decode cX1_readiest 35 = .ok (.iload_n 3, 1) := by decide +kernel
theorem dX1_readiest_36 : decode cX1_readiest 36 = .ok (.aaload, 1) := by decide +kernel
theorem dX1_readiest_37 : decode cX1_readiest 37 = .ok (.getfield 73, 3) := by decide +kernel
theorem dX1_readiest_40 : decode cX1_readiest 40 = .ok (.aload_n 0, 1) := by decide +kernel
theorem dX1_readiest_41 : decode cX1_readiest 41 = .ok (.getfield 9, 3) := by decide +kernel
theorem dX1_readiest_44 : decode cX1_readiest 44 = .ok (.getfield 28, 3) := by decide +kernel
theorem dX1_readiest_47 : decode cX1_readiest 47 = .ok (.iload_n 2, 1) := by decide +kernel
theorem dX1_readiest_48 : decode cX1_readiest 48 = .ok (.aaload, 1) := by decide +kernel
theorem dX1_readiest_49 : decode cX1_readiest 49 = .ok (.getfield 73, 3) := by decide +kernel
theorem dX1_readiest_52 : decode cX1_readiest 52 = .ok (.if_icmp .le 5, 3) := by decide +kernel
theorem dX1_readiest_55 : decode cX1_readiest 55 = .ok (.iload_n 3, 1) := by decide +kernel
theorem dX1_readiest_56 : decode cX1_readiest 56 = .ok (.istore_n 2, 1) := by decide +kernel
theorem dX1_readiest_57 : decode cX1_readiest 57 = .ok (.iinc 3 1, 3) := by decide +kernel
theorem dX1_readiest_60 : decode cX1_readiest 60 = .ok (.goto (-56), 3) := by decide +kernel
theorem dX1_readiest_63 : decode cX1_readiest 63 = .ok (.iload_n 2, 1) := by decide +kernel
theorem dX1_readiest_64 : decode cX1_readiest 64 = .ok (.ireturn, 1) := by decide +kernel
set_option maxRecDepth 20000 in
theorem ggX1_askAtEnd_X9_isIn : GoodIn wsX1_askAtEnd wsX9_isIn := goodIn_r _ [13] (by decide +kernel) (by decide +kernel)
set_option maxRecDepth 20000 in
theorem gX1_askAtEnd_X9_isIn_n24 : GoodIn wsX1_askAtEnd (wsX9_isIn) := ggX1_askAtEnd_X9_isIn
set_option maxRecDepth 20000 in
theorem ggX1_askAtEnd_X2_tellersAmong : GoodIn wsX1_askAtEnd wsX2_tellersAmong := goodIn_r _ [18, 19, 20, 11, 12, 13, 21, 22, 23, 24, 25, 26, 27, 28, 29, 98, 99, 100, 101, 102, 103, 104, 105, 106, 107, 108, 109, 110, 111, 112, 113, 114, 115, 116, 117, 118, 119, 120, 121, 122, 123, 124] (by decide +kernel) (by decide +kernel)
set_option maxRecDepth 20000 in
theorem gX1_askAtEnd_X2_tellersAmong : GoodIn wsX1_askAtEnd (wsV RX1 135 RX2 yX2_tellersAmong wsX2_tellersAmong) := goodIn_app (goodIn_of _ (by decide +kernel)) ggX1_askAtEnd_X2_tellersAmong
set_option maxRecDepth 20000 in
theorem ggX1_askAtEnd_X6_holds : GoodIn wsX1_askAtEnd wsX6_holds := goodIn_r _ [34, 35, 36, 11, 12, 13, 37, 38, 119, 120, 121, 122, 123, 124] (by decide +kernel) (by decide +kernel)
set_option maxRecDepth 20000 in
theorem gX1_askAtEnd_X6_holds : GoodIn wsX1_askAtEnd (wsV RX1 151 RX6 yX6_holds wsX6_holds) := goodIn_app (goodIn_of _ (by decide +kernel)) ggX1_askAtEnd_X6_holds
set_option maxRecDepth 20000 in
theorem ggX1_askAtEnd_X9_place : GoodIn wsX1_askAtEnd wsX9_place := goodIn_r _ [38] (by decide +kernel) (by decide +kernel)
set_option maxRecDepth 20000 in
theorem gX1_askAtEnd_X9_place_n158 : GoodIn wsX1_askAtEnd (wsX9_place) := ggX1_askAtEnd_X9_place
set_option maxRecDepth 20000 in
theorem ggX1_askAtEnd_X5_firstGiverOf : GoodIn wsX1_askAtEnd wsX5_firstGiverOf := goodIn_r _ [43, 44, 45, 46, 47, 48, 128, 129, 130, 131, 132, 133, 134] (by decide +kernel) (by decide +kernel)
set_option maxRecDepth 20000 in
theorem gX1_askAtEnd_X5_firstGiverOf : GoodIn wsX1_askAtEnd (wsV RX1 161 RX5 yX5_firstGiverOf wsX5_firstGiverOf) := goodIn_app (goodIn_of _ (by decide +kernel)) ggX1_askAtEnd_X5_firstGiverOf
set_option maxRecDepth 20000 in
theorem ggX1_askAtEnd_X1_readiest : GoodIn wsX1_askAtEnd wsX1_readiest := goodIn_r _ [53, 1, 54, 2, 55, 11, 12, 13, 97, 98, 99, 100, 101, 102, 103, 104, 105, 106, 107, 108, 109, 110, 111, 112, 113, 114, 115, 116, 117, 118] (by decide +kernel) (by decide +kernel)
set_option maxRecDepth 20000 in
theorem gX1_askAtEnd_X1_readiest : GoodIn wsX1_askAtEnd (wsV RX1 119 RX1 yX1_readiest wsX1_readiest) := goodIn_app (goodIn_of _ (by decide +kernel)) ggX1_askAtEnd_X1_readiest
set_option maxRecDepth 20000 in
theorem ggX1_askAtEnd_X1_send : GoodIn wsX1_askAtEnd wsX1_send := goodIn_r _ [59, 1, 2, 55, 60, 61, 62, 63, 64, 3, 65, 6, 66, 67, 10, 68, 69, 70, 33, 71, 72, 73, 37, 12, 38, 74, 75, 76, 77, 78, 79, 80, 81, 82, 83, 24, 84, 26, 85, 86, 87, 88, 89, 42, 90, 48, 44, 45, 46, 47, 91, 92, 93, 94, 95, 96, 97, 98, 99, 100, 101, 102, 103, 104, 105, 106, 107, 108, 109, 110, 111, 112, 113, 114, 115, 116, 117, 118, 135, 136, 137, 138, 139, 140, 141, 142, 143, 144, 119, 120, 121, 122, 123, 124, 125, 126, 127, 128, 129, 130, 131, 132, 133, 134] (by decide +kernel) (by decide +kernel)
set_option maxRecDepth 20000 in
theorem gX1_askAtEnd_X1_send : GoodIn wsX1_askAtEnd (wsV RX1 122 RX1 yX1_send wsX1_send) := goodIn_app (goodIn_of _ (by decide +kernel)) ggX1_askAtEnd_X1_send
theorem dX1_askAtEnd_0 : decode cX1_askAtEnd 0 = .ok (.aload_n 0, 1) := by decide +kernel
theorem dX1_askAtEnd_1 : decode cX1_askAtEnd 1 = .ok (.getfield 9, 3) := by decide +kernel
theorem dX1_askAtEnd_4 : decode cX1_askAtEnd 4 = .ok (.getfield 28, 3) := by decide +kernel
theorem dX1_askAtEnd_7 : decode cX1_askAtEnd 7 = .ok (.iload_n 1, 1) := by decide +kernel
theorem dX1_askAtEnd_8 : decode cX1_askAtEnd 8 = .ok (.aaload, 1) := by decide +kernel
theorem dX1_askAtEnd_9 : decode cX1_askAtEnd 9 = .ok (.getfield 32, 3) := by decide +kernel
theorem dX1_askAtEnd_12 : decode cX1_askAtEnd 12 = .ok (.astore_n 3, 1) := by decide +kernel
theorem dX1_askAtEnd_13 : decode cX1_askAtEnd 13 = .ok (.aload_n 3, 1) := by decide +kernel
theorem dX1_askAtEnd_14 : decode cX1_askAtEnd 14 = .ok (.getfield 51, 3) := by decide +kernel
theorem dX1_askAtEnd_17 : decode cX1_askAtEnd 17 = .ok (.aload_n 3, 1) := by decide +kernel
theorem dX1_askAtEnd_18 : decode cX1_askAtEnd 18 = .ok (.getfield 46, 3) := by decide +kernel
theorem dX1_askAtEnd_21 : decode cX1_askAtEnd 21 = .ok (.ior, 1) := by decide +kernel
theorem dX1_askAtEnd_22 : decode cX1_askAtEnd 22 = .ok (.istore 4, 2) := by decide +kernel
theorem dX1_askAtEnd_24 : decode cX1_askAtEnd 24 = .ok (.iconst 0, 1) := by decide +kernel
theorem dX1_askAtEnd_25 : decode cX1_askAtEnd 25 = .ok (.istore 5, 2) := by decide +kernel
theorem dX1_askAtEnd_27 : decode cX1_askAtEnd 27 = .ok (.iload 5, 2) := by decide +kernel
theorem dX1_askAtEnd_29 : decode cX1_askAtEnd 29 = .ok (.aload_n 0, 1) := by decide +kernel
theorem dX1_askAtEnd_30 : decode cX1_askAtEnd 30 = .ok (.getfield 9, 3) := by decide +kernel
theorem dX1_askAtEnd_33 : decode cX1_askAtEnd 33 = .ok (.getfield 54, 3) := by decide +kernel
theorem dX1_askAtEnd_36 : decode cX1_askAtEnd 36 = .ok (.getfield 58, 3) := by decide +kernel
theorem dX1_askAtEnd_39 : decode cX1_askAtEnd 39 = .ok (.if_icmp .ge 154, 3) := by decide +kernel
theorem dX1_askAtEnd_42 : decode cX1_askAtEnd 42 = .ok (.iload 4, 2) := by decide +kernel
theorem dX1_askAtEnd_44 : decode cX1_askAtEnd 44 = .ok (.iload 5, 2) := by decide +kernel
theorem dX1_askAtEnd_46 : decode cX1_askAtEnd 46 = .ok (.invokestatic 24, 3) := by decide +kernel
theorem dX1_askAtEnd_49 : decode cX1_askAtEnd 49 = .ok (.ifCond .eq 7, 3) := by decide +kernel
theorem dX1_askAtEnd_52 : decode cX1_askAtEnd 52 = .ok (.iconst 0, 1) := by decide +kernel
theorem dX1_askAtEnd_53 : decode cX1_askAtEnd 53 = .ok (.goto 13, 3) := by decide +kernel
theorem dX1_askAtEnd_56 : decode cX1_askAtEnd 56 = .ok (.aload_n 0, 1) := by decide +kernel
theorem dX1_askAtEnd_57 : decode cX1_askAtEnd 57 = .ok (.getfield 9, 3) := by decide +kernel
theorem dX1_askAtEnd_60 : decode cX1_askAtEnd 60 = .ok (.iload_n 2, 1) := by decide +kernel
theorem dX1_askAtEnd_61 : decode cX1_askAtEnd 61 = .ok (.iload 5, 2) := by decide +kernel
theorem dX1_askAtEnd_63 : decode cX1_askAtEnd 63 = .ok (.invokevirtual 135, 3) := by decide +kernel
theorem dX1_askAtEnd_66 : decode cX1_askAtEnd 66 = .ok (.istore 6, 2) := by decide +kernel
theorem dX1_askAtEnd_68 : decode cX1_askAtEnd 68 = .ok (.iconst 0, 1) := by decide +kernel
theorem dX1_askAtEnd_69 : decode cX1_askAtEnd 69 = .ok (.istore 7, 2) := by decide +kernel
theorem dX1_askAtEnd_71 : decode cX1_askAtEnd 71 = .ok (.iload 6, 2) := by decide +kernel
theorem dX1_askAtEnd_73 : decode cX1_askAtEnd 73 = .ok (.ifCond .eq 114, 3) := by decide +kernel
theorem dX1_askAtEnd_76 : decode cX1_askAtEnd 76 = .ok (.iload 7, 2) := by decide +kernel
theorem dX1_askAtEnd_78 : decode cX1_askAtEnd 78 = .ok (.aload_n 0, 1) := by decide +kernel
theorem dX1_askAtEnd_79 : decode cX1_askAtEnd 79 = .ok (.getfield 9, 3) := by decide +kernel
theorem dX1_askAtEnd_82 : decode cX1_askAtEnd 82 = .ok (.getfield 54, 3) := by decide +kernel
theorem dX1_askAtEnd_85 : decode cX1_askAtEnd 85 = .ok (.getfield 109, 3) := by decide +kernel
theorem dX1_askAtEnd_88 : decode cX1_askAtEnd 88 = .ok (.if_icmp .ge 99, 3) := by decide +kernel
theorem dX1_askAtEnd_91 : decode cX1_askAtEnd 91 = .ok (.aload_n 3, 1) := by decide +kernel
theorem dX1_askAtEnd_92 : decode cX1_askAtEnd 92 = .ok (.iload 5, 2) := by decide +kernel
theorem dX1_askAtEnd_94 : decode cX1_askAtEnd 94 = .ok (.iload 7, 2) := by decide +kernel
theorem dX1_askAtEnd_96 : decode cX1_askAtEnd 96 = .ok (.invokevirtual 151, 3) := by decide +kernel
theorem dX1_askAtEnd_99 : decode cX1_askAtEnd 99 = .ok (.ifCond .ne 82, 3) := by decide +kernel
theorem dX1_askAtEnd_102 : decode cX1_askAtEnd 102 = .ok (.aload_n 3, 1) := by decide +kernel
theorem dX1_askAtEnd_103 : decode cX1_askAtEnd 103 = .ok (.getfield 154, 3) := by decide +kernel
theorem dX1_askAtEnd_106 : decode cX1_askAtEnd 106 = .ok (.iload 5, 2) := by decide +kernel
theorem dX1_askAtEnd_108 : decode cX1_askAtEnd 108 = .ok (.iload 7, 2) := by decide +kernel
theorem dX1_askAtEnd_110 : decode cX1_askAtEnd 110 = .ok (.invokestatic 158, 3) := by decide +kernel
theorem dX1_askAtEnd_113 : decode cX1_askAtEnd 113 = .ok (.iaload, 1) := by decide +kernel
theorem dX1_askAtEnd_114 : decode cX1_askAtEnd 114 = .ok (.iconst 1, 1) := by decide +kernel
theorem dX1_askAtEnd_115 : decode cX1_askAtEnd 115 = .ok (.if_icmp .eq 6, 3) := by decide +kernel
theorem dX1_askAtEnd_118 : decode cX1_askAtEnd 118 = .ok (.goto 63, 3) := by decide +kernel
theorem dX1_askAtEnd_121 : decode cX1_askAtEnd 121 = .ok (.aload_n 0, 1) := by decide +kernel
theorem dX1_askAtEnd_122 : decode cX1_askAtEnd 122 = .ok (.getfield 9, 3) := by decide +kernel
theorem dX1_askAtEnd_125 : decode cX1_askAtEnd 125 = .ok (.getfield 90, 3) := by decide +kernel
theorem dX1_askAtEnd_128 : decode cX1_askAtEnd 128 = .ok (.iload_n 1, 1) := by decide +kernel
theorem dX1_askAtEnd_129 : decode cX1_askAtEnd 129 = .ok (.iload 5, 2) := by decide +kernel
theorem dX1_askAtEnd_131 : decode cX1_askAtEnd 131 = .ok (.iload 7, 2) := by decide +kernel
theorem dX1_askAtEnd_133 : decode cX1_askAtEnd 133 = .ok (.invokevirtual 161, 3) := by decide +kernel
theorem dX1_askAtEnd_136 : decode cX1_askAtEnd 136 = .ok (.istore 8, 2) := by decide +kernel
theorem dX1_askAtEnd_138 : decode cX1_askAtEnd 138 = .ok (.iload 8, 2) := by decide +kernel
theorem dX1_askAtEnd_140 : decode cX1_askAtEnd 140 = .ok (.iconst (-1), 1) := by decide +kernel
theorem dX1_askAtEnd_141 : decode cX1_askAtEnd 141 = .ok (.if_icmp .ne 8, 3) := by decide +kernel
theorem dX1_askAtEnd_144 : decode cX1_askAtEnd 144 = .ok (.iload 6, 2) := by decide +kernel
theorem dX1_askAtEnd_146 : decode cX1_askAtEnd 146 = .ok (.goto 12, 3) := by decide +kernel
theorem dX1_askAtEnd_149 : decode cX1_askAtEnd 149 = .ok (.iload 6, 2) := by decide +kernel
theorem dX1_askAtEnd_151 : decode cX1_askAtEnd 151 = .ok (.iconst 1, 1) := by decide +kernel
theorem dX1_askAtEnd_152 : decode cX1_askAtEnd 152 = .ok (.iload 8, 2) := by decide +kernel
theorem dX1_askAtEnd_154 : decode cX1_askAtEnd 154 = .ok (.ishl, 1) := by decide +kernel
theorem dX1_askAtEnd_155 : decode cX1_askAtEnd 155 = .ok (.iconst (-1), 1) := by decide +kernel
theorem dX1_askAtEnd_156 : decode cX1_askAtEnd 156 = .ok (.ixor, 1) := by decide +kernel
theorem dX1_askAtEnd_157 : decode cX1_askAtEnd 157 = .ok (.iand, 1) := by decide +kernel
theorem dX1_askAtEnd_158 : decode cX1_askAtEnd 158 = .ok (.istore 9, 2) := by decide +kernel
theorem dX1_askAtEnd_160 : decode cX1_askAtEnd 160 = .ok (.iload 9, 2) := by decide +kernel
theorem dX1_askAtEnd_162 : decode cX1_askAtEnd 162 = .ok (.ifCond .eq 19, 3) := by decide +kernel
theorem dX1_askAtEnd_165 : decode cX1_askAtEnd 165 = .ok (.aload_n 0, 1) := by decide +kernel
theorem dX1_askAtEnd_166 : decode cX1_askAtEnd 166 = .ok (.aload_n 0, 1) := by decide +kernel
theorem dX1_askAtEnd_167 : decode cX1_askAtEnd 167 = .ok (.iload 9, 2) := by decide +kernel
theorem dX1_askAtEnd_169 : decode cX1_askAtEnd 169 = .ok (.invokevirtual 119, 3) := by decide +kernel
theorem dX1_askAtEnd_172 : decode cX1_askAtEnd 172 = .ok (.iload_n 1, 1) := by decide +kernel
theorem dX1_askAtEnd_173 : decode cX1_askAtEnd 173 = .ok (.iload 5, 2) := by decide +kernel
theorem dX1_askAtEnd_175 : decode cX1_askAtEnd 175 = .ok (.iload 7, 2) := by decide +kernel
theorem dX1_askAtEnd_177 : decode cX1_askAtEnd 177 = .ok (.invokevirtual 122, 3) := by decide +kernel
theorem dX1_askAtEnd_180 : decode cX1_askAtEnd 180 = .ok (.ireturn, 1) := by decide +kernel
theorem dX1_askAtEnd_181 : decode cX1_askAtEnd 181 = .ok (.iinc 7 1, 3) := by decide +kernel
theorem dX1_askAtEnd_184 : decode cX1_askAtEnd 184 = .ok (.goto (-113), 3) := by decide +kernel
theorem dX1_askAtEnd_187 : decode cX1_askAtEnd 187 = .ok (.iinc 5 1, 3) := by decide +kernel
theorem dX1_askAtEnd_190 : decode cX1_askAtEnd 190 = .ok (.goto (-163), 3) := by decide +kernel
theorem dX1_askAtEnd_193 : decode cX1_askAtEnd 193 = .ok (.iconst 0, 1) := by decide +kernel
theorem dX1_askAtEnd_194 : decode cX1_askAtEnd 194 = .ok (.ireturn, 1) := by decide +kernel
set_option maxRecDepth 20000 in
theorem ggX1_send_X6_expect : GoodIn wsX1_send wsX6_expect := goodIn_r _ [19, 20, 21, 22, 23, 24, 88, 89, 90, 91, 92, 93] (by decide +kernel) (by decide +kernel)
set_option maxRecDepth 20000 in
theorem gX1_send_X6_expect : GoodIn wsX1_send (wsV RX1 172 RX6 yX6_expect wsX6_expect) := goodIn_app (goodIn_of _ (by decide +kernel)) ggX1_send_X6_expect
set_option maxRecDepth 20000 in
theorem ggX1_send_X8_valueOf : GoodIn wsX1_send wsX8_valueOf := goodIn_r _ [29, 30, 31, 94, 95, 96] (by decide +kernel) (by decide +kernel)
set_option maxRecDepth 20000 in
theorem gX1_send_X8_valueOf : GoodIn wsX1_send (wsV RX1 179 RX8 yX8_valueOf wsX8_valueOf) := goodIn_app (goodIn_of _ (by decide +kernel)) ggX1_send_X8_valueOf
set_option maxRecDepth 20000 in
theorem ggX1_send_X3_nowSendsFalse : GoodIn wsX1_send wsX3_nowSendsFalse := goodIn_r _ [36, 37, 38, 39, 65, 66, 67, 68, 69, 70, 71, 72, 73, 74, 75, 76, 77] (by decide +kernel) (by decide +kernel)
set_option maxRecDepth 20000 in
theorem gX1_send_X3_nowSendsFalse : GoodIn wsX1_send (wsV RX1 188 RX3 yX3_nowSendsFalse wsX3_nowSendsFalse) := goodIn_app (goodIn_of _ (by decide +kernel)) ggX1_send_X3_nowSendsFalse
set_option maxRecDepth 20000 in
theorem ggX1_send_X5_add : GoodIn wsX1_send wsX5_add := goodIn_r _ [44, 45, 46, 47, 48, 49, 50, 51, 52, 53, 54, 43, 55, 97, 98, 99, 100, 101, 102, 103] (by decide +kernel) (by decide +kernel)
set_option maxRecDepth 20000 in
theorem gX1_send_X5_add : GoodIn wsX1_send (wsV RX1 191 RX5 yX5_add wsX5_add) := goodIn_app (goodIn_of _ (by decide +kernel)) ggX1_send_X5_add
theorem dX1_send_0 : decode cX1_send 0 = .ok (.iload_n 1, 1) := by decide +kernel
theorem dX1_send_1 : decode cX1_send 1 = .ok (.iconst (-1), 1) := by decide +kernel
theorem dX1_send_2 : decode cX1_send 2 = .ok (.if_icmp .eq 9, 3) := by decide +kernel
theorem dX1_send_5 : decode cX1_send 5 = .ok (.iload 4, 2) := by decide +kernel
theorem dX1_send_7 : decode cX1_send 7 = .ok (.iconst (-1), 1) := by decide +kernel
theorem dX1_send_8 : decode cX1_send 8 = .ok (.if_icmp .ne 5, 3) := by decide +kernel
theorem dX1_send_11 : decode cX1_send 11 = .ok (.iconst 0, 1) := by decide +kernel
theorem dX1_send_12 : decode cX1_send 12 = .ok (.ireturn, 1) := by decide +kernel
theorem dX1_send_13 : decode cX1_send 13 = .ok (.aload_n 0, 1) := by decide +kernel
theorem dX1_send_14 : decode cX1_send 14 = .ok (.getfield 9, 3) := by decide +kernel
theorem dX1_send_17 : decode cX1_send 17 = .ok (.getfield 28, 3) := by decide +kernel
theorem dX1_send_20 : decode cX1_send 20 = .ok (.iload_n 1, 1) := by decide +kernel
theorem dX1_send_21 : decode cX1_send 21 = .ok (.aaload, 1) := by decide +kernel
theorem dX1_send_22 : decode cX1_send 22 = .ok (.astore 5, 2) := by decide +kernel
theorem dX1_send_24 : decode cX1_send 24 = .ok (.aload_n 0, 1) := by decide +kernel
theorem dX1_send_25 : decode cX1_send 25 = .ok (.getfield 9, 3) := by decide +kernel
theorem dX1_send_28 : decode cX1_send 28 = .ok (.getfield 28, 3) := by decide +kernel
theorem dX1_send_31 : decode cX1_send 31 = .ok (.iload_n 2, 1) := by decide +kernel
theorem dX1_send_32 : decode cX1_send 32 = .ok (.aaload, 1) := by decide +kernel
theorem dX1_send_33 : decode cX1_send 33 = .ok (.astore 6, 2) := by decide +kernel
theorem dX1_send_35 : decode cX1_send 35 = .ok (.aload 5, 2) := by decide +kernel
theorem dX1_send_37 : decode cX1_send 37 = .ok (.dup, 1) := by decide +kernel
theorem dX1_send_38 : decode cX1_send 38 = .ok (.getfield 73, 3) := by decide +kernel
theorem dX1_send_41 : decode cX1_send 41 = .ok (.iconst 1, 1) := by decide +kernel
theorem dX1_send_42 : decode cX1_send 42 = .ok (.isub, 1) := by decide +kernel
theorem dX1_send_43 : decode cX1_send 43 = .ok (.putfield 73, 3) := by decide +kernel
theorem dX1_send_46 : decode cX1_send 46 = .ok (.aload 5, 2) := by decide +kernel
theorem dX1_send_48 : decode cX1_send 48 = .ok (.dup, 1) := by decide +kernel
theorem dX1_send_49 : decode cX1_send 49 = .ok (.getfield 164, 3) := by decide +kernel
theorem dX1_send_52 : decode cX1_send 52 = .ok (.iconst 1, 1) := by decide +kernel
theorem dX1_send_53 : decode cX1_send 53 = .ok (.iadd, 1) := by decide +kernel
theorem dX1_send_54 : decode cX1_send 54 = .ok (.putfield 164, 3) := by decide +kernel
theorem dX1_send_57 : decode cX1_send 57 = .ok (.aload 5, 2) := by decide +kernel
theorem dX1_send_59 : decode cX1_send 59 = .ok (.getfield 126, 3) := by decide +kernel
theorem dX1_send_62 : decode cX1_send 62 = .ok (.getfield 167, 3) := by decide +kernel
theorem dX1_send_65 : decode cX1_send 65 = .ok (.iload_n 2, 1) := by decide +kernel
theorem dX1_send_66 : decode cX1_send 66 = .ok (.dup2, 1) := by decide +kernel
theorem dX1_send_67 : decode cX1_send 67 = .ok (.iaload, 1) := by decide +kernel
theorem dX1_send_68 : decode cX1_send 68 = .ok (.iconst 1, 1) := by decide +kernel
theorem dX1_send_69 : decode cX1_send 69 = .ok (.iadd, 1) := by decide +kernel
theorem dX1_send_70 : decode cX1_send 70 = .ok (.iastore, 1) := by decide +kernel
theorem dX1_send_71 : decode cX1_send 71 = .ok (.aload 5, 2) := by decide +kernel
theorem dX1_send_73 : decode cX1_send 73 = .ok (.getfield 126, 3) := by decide +kernel
theorem dX1_send_76 : decode cX1_send 76 = .ok (.getfield 169, 3) := by decide +kernel
theorem dX1_send_79 : decode cX1_send 79 = .ok (.iload_n 2, 1) := by decide +kernel
theorem dX1_send_80 : decode cX1_send 80 = .ok (.dup2, 1) := by decide +kernel
theorem dX1_send_81 : decode cX1_send 81 = .ok (.iaload, 1) := by decide +kernel
theorem dX1_send_82 : decode cX1_send 82 = .ok (.iconst 1, 1) := by decide +kernel
theorem dX1_send_83 : decode cX1_send 83 = .ok (.iadd, 1) := by decide +kernel
theorem dX1_send_84 : decode cX1_send 84 = .ok (.iastore, 1) := by decide +kernel
theorem dX1_send_85 : decode cX1_send 85 = .ok (.aload 6, 2) := by decide +kernel
theorem dX1_send_87 : decode cX1_send 87 = .ok (.dup, 1) := by decide +kernel
theorem dX1_send_88 : decode cX1_send 88 = .ok (.getfield 79, 3) := by decide +kernel
theorem dX1_send_91 : decode cX1_send 91 = .ok (.iconst 1, 1) := by decide +kernel
theorem dX1_send_92 : decode cX1_send 92 = .ok (.isub, 1) := by decide +kernel
theorem dX1_send_93 : decode cX1_send 93 = .ok (.putfield 79, 3) := by decide +kernel
theorem dX1_send_96 : decode cX1_send 96 = .ok (.aload 6, 2) := by decide +kernel
theorem dX1_send_98 : decode cX1_send 98 = .ok (.getfield 32, 3) := by decide +kernel
theorem dX1_send_101 : decode cX1_send 101 = .ok (.iload_n 3, 1) := by decide +kernel
