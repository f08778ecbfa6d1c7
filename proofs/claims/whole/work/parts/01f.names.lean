theorem dX10_peer_208 : decode cX10_peer 208 = .ok (.iload 6, 2) := by decide +kernel
theorem dX10_peer_210 : decode cX10_peer 210 = .ok (.invokevirtual 128, 3) := by decide +kernel
theorem dX10_peer_213 : decode cX10_peer 213 = .ok (.iastore, 1) := by decide +kernel
theorem dX10_peer_214 : decode cX10_peer 214 = .ok (.aload_n 0, 1) := by decide +kernel
theorem dX10_peer_215 : decode cX10_peer 215 = .ok (.getfield 60, 3) := by decide +kernel
theorem dX10_peer_218 : decode cX10_peer 218 = .ok (.iload 4, 2) := by decide +kernel
theorem dX10_peer_220 : decode cX10_peer 220 = .ok (.iload 5, 2) := by decide +kernel
theorem dX10_peer_222 : decode cX10_peer 222 = .ok (.iload 6, 2) := by decide +kernel
theorem dX10_peer_224 : decode cX10_peer 224 = .ok (.invokestatic 163, 3) := by decide +kernel
theorem dX10_peer_227 : decode cX10_peer 227 = .ok (.iconst (-1), 1) := by decide +kernel
theorem dX10_peer_228 : decode cX10_peer 228 = .ok (.iastore, 1) := by decide +kernel
theorem dX10_peer_229 : decode cX10_peer 229 = .ok (.iinc 6 1, 3) := by decide +kernel
theorem dX10_peer_232 : decode cX10_peer 232 = .ok (.goto (-64), 3) := by decide +kernel
theorem dX10_peer_235 : decode cX10_peer 235 = .ok (.iinc 5 1, 3) := by decide +kernel
theorem dX10_peer_238 : decode cX10_peer 238 = .ok (.goto (-101), 3) := by decide +kernel
theorem dX10_peer_241 : decode cX10_peer 241 = .ok (.iload 4, 2) := by decide +kernel
theorem dX10_peer_243 : decode cX10_peer 243 = .ok (.ireturn, 1) := by decide +kernel
set_option maxRecDepth 20000 in
theorem ggX10_often_X10_isPeer : GoodIn wsX10_often wsX10_isPeer := goodIn_r _ [8, 9, 10, 11, 7, 12, 13, 14, 15, 16, 17, 18, 19, 20, 21, 22, 23, 24, 25, 26, 27, 28, 29, 30, 31, 32, 33, 34, 35, 36, 37, 38, 39, 40, 41, 42, 43, 44, 45, 46, 47, 48, 49, 50, 51, 52, 53, 54, 55, 56, 57] (by decide +kernel) (by decide +kernel)
set_option maxRecDepth 20000 in
theorem gX10_often_X10_isPeer : GoodIn wsX10_often (wsV RX10 147 RX10 yX10_isPeer wsX10_isPeer) := goodIn_app (goodIn_of _ (by decide +kernel)) ggX10_often_X10_isPeer
set_option maxRecDepth 20000 in
theorem ggX10_often_X10_in : GoodIn wsX10_often wsX10_in := goodIn_r _ [12] (by decide +kernel) (by decide +kernel)
set_option maxRecDepth 20000 in
theorem gX10_often_X10_in : GoodIn wsX10_often (va_wsS RX10 132 yX10_in wsX10_in) := goodIn_app (goodIn_of _ (by decide +kernel)) ggX10_often_X10_in
theorem dX10_often_0 : decode cX10_often 0 = .ok (.aload_n 0, 1) := by decide +kernel
theorem dX10_often_1 : decode cX10_often 1 = .ok (.iconst 0, 1) := by decide +kernel
theorem dX10_often_2 : decode cX10_often 2 = .ok (.putfield 120, 3) := by decide +kernel
theorem dX10_often_5 : decode cX10_often 5 = .ok (.aload_n 0, 1) := by decide +kernel
theorem dX10_often_6 : decode cX10_often 6 = .ok (.iload_n 1, 1) := by decide +kernel
theorem dX10_often_7 : decode cX10_often 7 = .ok (.invokevirtual 147, 3) := by decide +kernel
theorem dX10_often_10 : decode cX10_often 10 = .ok (.ifCond .eq 23, 3) := by decide +kernel
theorem dX10_often_13 : decode cX10_often 13 = .ok (.aload_n 0, 1) := by decide +kernel
theorem dX10_often_14 : decode cX10_often 14 = .ok (.getfield 16, 3) := by decide +kernel
theorem dX10_often_17 : decode cX10_often 17 = .ok (.iload_n 1, 1) := by decide +kernel
theorem dX10_often_18 : decode cX10_often 18 = .ok (.iaload, 1) := by decide +kernel
theorem dX10_often_19 : decode cX10_often 19 = .ok (.iconst 3, 1) := by decide +kernel
theorem dX10_often_20 : decode cX10_often 20 = .ok (.if_icmp .ne 13, 3) := by decide +kernel
theorem dX10_often_23 : decode cX10_often 23 = .ok (.iload_n 2, 1) := by decide +kernel
theorem dX10_often_24 : decode cX10_often 24 = .ok (.iconst 1, 1) := by decide +kernel
theorem dX10_often_25 : decode cX10_often 25 = .ok (.bipush 100, 2) := by decide +kernel
theorem dX10_often_27 : decode cX10_often 27 = .ok (.invokestatic 132, 3) := by decide +kernel
theorem dX10_often_30 : decode cX10_often 30 = .ok (.ifCond .ne 5, 3) := by decide +kernel
theorem dX10_often_33 : decode cX10_often 33 = .ok (.iconst 0, 1) := by decide +kernel
theorem dX10_often_34 : decode cX10_often 34 = .ok (.ireturn, 1) := by decide +kernel
theorem dX10_often_35 : decode cX10_often 35 = .ok (.aload_n 0, 1) := by decide +kernel
theorem dX10_often_36 : decode cX10_often 36 = .ok (.getfield 30, 3) := by decide +kernel
theorem dX10_often_39 : decode cX10_often 39 = .ok (.iload_n 1, 1) := by decide +kernel
theorem dX10_often_40 : decode cX10_often 40 = .ok (.iload_n 2, 1) := by decide +kernel
theorem dX10_often_41 : decode cX10_often 41 = .ok (.iastore, 1) := by decide +kernel
theorem dX10_often_42 : decode cX10_often 42 = .ok (.iconst 1, 1) := by decide +kernel
theorem dX10_often_43 : decode cX10_often 43 = .ok (.ireturn, 1) := by decide +kernel
set_option maxRecDepth 20000 in
theorem ggX10_meet_X10_isTwo : GoodIn wsX10_meet wsX10_isTwo := goodIn_r _ [7, 8, 9, 10, 6, 11, 12, 13, 14, 15, 19, 20, 21, 22, 23, 24, 25, 26, 27, 28, 29, 30, 31, 32, 33, 34, 35, 36, 37, 38, 39, 40, 41, 42, 43, 44, 45, 46, 47, 48, 49, 50, 51, 52, 53, 54, 55, 56, 57, 58, 59, 60, 61, 62, 63] (by decide +kernel) (by decide +kernel)
set_option maxRecDepth 20000 in
theorem gX10_meet_X10_isTwo : GoodIn wsX10_meet (wsV RX10 167 RX10 yX10_isTwo wsX10_isTwo) := goodIn_app (goodIn_of _ (by decide +kernel)) ggX10_meet_X10_isTwo
set_option maxRecDepth 20000 in
theorem ggX10_meet_X10_two : GoodIn wsX10_meet wsX10_two := goodIn_r _ [18] (by decide +kernel) (by decide +kernel)
set_option maxRecDepth 20000 in
theorem gX10_meet_X10_two : GoodIn wsX10_meet (va_wsS RX10 151 yX10_two wsX10_two) := goodIn_app (goodIn_of _ (by decide +kernel)) ggX10_meet_X10_two
theorem dX10_meet_0 : decode cX10_meet 0 = .ok (.aload_n 0, 1) := by decide +kernel
theorem dX10_meet_1 : decode cX10_meet 1 = .ok (.iconst 0, 1) := by decide +kernel
theorem dX10_meet_2 : decode cX10_meet 2 = .ok (.putfield 120, 3) := by decide +kernel
theorem dX10_meet_5 : decode cX10_meet 5 = .ok (.aload_n 0, 1) := by decide +kernel
theorem dX10_meet_6 : decode cX10_meet 6 = .ok (.iload_n 1, 1) := by decide +kernel
theorem dX10_meet_7 : decode cX10_meet 7 = .ok (.iload_n 2, 1) := by decide +kernel
theorem dX10_meet_8 : decode cX10_meet 8 = .ok (.invokevirtual 167, 3) := by decide +kernel
theorem dX10_meet_11 : decode cX10_meet 11 = .ok (.ifCond .eq 16, 3) := by decide +kernel
theorem dX10_meet_14 : decode cX10_meet 14 = .ok (.aload_n 0, 1) := by decide +kernel
theorem dX10_meet_15 : decode cX10_meet 15 = .ok (.getfield 63, 3) := by decide +kernel
theorem dX10_meet_18 : decode cX10_meet 18 = .ok (.iload_n 1, 1) := by decide +kernel
theorem dX10_meet_19 : decode cX10_meet 19 = .ok (.iload_n 2, 1) := by decide +kernel
theorem dX10_meet_20 : decode cX10_meet 20 = .ok (.invokestatic 151, 3) := by decide +kernel
theorem dX10_meet_23 : decode cX10_meet 23 = .ok (.baload, 1) := by decide +kernel
theorem dX10_meet_24 : decode cX10_meet 24 = .ok (.ifCond .eq 5, 3) := by decide +kernel
theorem dX10_meet_27 : decode cX10_meet 27 = .ok (.iconst 0, 1) := by decide +kernel
theorem dX10_meet_28 : decode cX10_meet 28 = .ok (.ireturn, 1) := by decide +kernel
theorem dX10_meet_29 : decode cX10_meet 29 = .ok (.aload_n 0, 1) := by decide +kernel
theorem dX10_meet_30 : decode cX10_meet 30 = .ok (.getfield 63, 3) := by decide +kernel
theorem dX10_meet_33 : decode cX10_meet 33 = .ok (.iload_n 1, 1) := by decide +kernel
theorem dX10_meet_34 : decode cX10_meet 34 = .ok (.iload_n 2, 1) := by decide +kernel
theorem dX10_meet_35 : decode cX10_meet 35 = .ok (.invokestatic 151, 3) := by decide +kernel
theorem dX10_meet_38 : decode cX10_meet 38 = .ok (.iconst 1, 1) := by decide +kernel
theorem dX10_meet_39 : decode cX10_meet 39 = .ok (.bastore, 1) := by decide +kernel
theorem dX10_meet_40 : decode cX10_meet 40 = .ok (.aload_n 0, 1) := by decide +kernel
theorem dX10_meet_41 : decode cX10_meet 41 = .ok (.getfield 63, 3) := by decide +kernel
theorem dX10_meet_44 : decode cX10_meet 44 = .ok (.iload_n 2, 1) := by decide +kernel
theorem dX10_meet_45 : decode cX10_meet 45 = .ok (.iload_n 1, 1) := by decide +kernel
theorem dX10_meet_46 : decode cX10_meet 46 = .ok (.invokestatic 151, 3) := by decide +kernel
theorem dX10_meet_49 : decode cX10_meet 49 = .ok (.iconst 1, 1) := by decide +kernel
theorem dX10_meet_50 : decode cX10_meet 50 = .ok (.bastore, 1) := by decide +kernel
theorem dX10_meet_51 : decode cX10_meet 51 = .ok (.iconst 1, 1) := by decide +kernel
theorem dX10_meet_52 : decode cX10_meet 52 = .ok (.ireturn, 1) := by decide +kernel
theorem dX10_keep_0 : decode cX10_keep 0 = .ok (.aload_n 0, 1) := by decide +kernel
theorem dX10_keep_1 : decode cX10_keep 1 = .ok (.getfield 90, 3) := by decide +kernel
theorem dX10_keep_4 : decode cX10_keep 4 = .ok (.iload_n 1, 1) := by decide +kernel
theorem dX10_keep_5 : decode cX10_keep 5 = .ok (.aload_n 0, 1) := by decide +kernel
theorem dX10_keep_6 : decode cX10_keep 6 = .ok (.getfield 90, 3) := by decide +kernel
theorem dX10_keep_9 : decode cX10_keep 9 = .ok (.iload_n 2, 1) := by decide +kernel
theorem dX10_keep_10 : decode cX10_keep 10 = .ok (.iaload, 1) := by decide +kernel
theorem dX10_keep_11 : decode cX10_keep 11 = .ok (.iastore, 1) := by decide +kernel
theorem dX10_keep_12 : decode cX10_keep 12 = .ok (.aload_n 0, 1) := by decide +kernel
theorem dX10_keep_13 : decode cX10_keep 13 = .ok (.getfield 93, 3) := by decide +kernel
theorem dX10_keep_16 : decode cX10_keep 16 = .ok (.iload_n 1, 1) := by decide +kernel
theorem dX10_keep_17 : decode cX10_keep 17 = .ok (.aload_n 0, 1) := by decide +kernel
theorem dX10_keep_18 : decode cX10_keep 18 = .ok (.getfield 93, 3) := by decide +kernel
theorem dX10_keep_21 : decode cX10_keep 21 = .ok (.iload_n 2, 1) := by decide +kernel
theorem dX10_keep_22 : decode cX10_keep 22 = .ok (.iaload, 1) := by decide +kernel
theorem dX10_keep_23 : decode cX10_keep 23 = .ok (.iastore, 1) := by decide +kernel
theorem dX10_keep_24 : decode cX10_keep 24 = .ok (.aload_n 0, 1) := by decide +kernel
theorem dX10_keep_25 : decode cX10_keep 25 = .ok (.getfield 96, 3) := by decide +kernel
theorem dX10_keep_28 : decode cX10_keep 28 = .ok (.iload_n 1, 1) := by decide +kernel
theorem dX10_keep_29 : decode cX10_keep 29 = .ok (.aload_n 0, 1) := by decide +kernel
theorem dX10_keep_30 : decode cX10_keep 30 = .ok (.getfield 96, 3) := by decide +kernel
theorem dX10_keep_33 : decode cX10_keep 33 = .ok (.iload_n 2, 1) := by decide +kernel
theorem dX10_keep_34 : decode cX10_keep 34 = .ok (.iaload, 1) := by decide +kernel
theorem dX10_keep_35 : decode cX10_keep 35 = .ok (.iastore, 1) := by decide +kernel
theorem dX10_keep_36 : decode cX10_keep 36 = .ok (.aload_n 0, 1) := by decide +kernel
theorem dX10_keep_37 : decode cX10_keep 37 = .ok (.getfield 99, 3) := by decide +kernel
theorem dX10_keep_40 : decode cX10_keep 40 = .ok (.iload_n 1, 1) := by decide +kernel
theorem dX10_keep_41 : decode cX10_keep 41 = .ok (.aload_n 0, 1) := by decide +kernel
theorem dX10_keep_42 : decode cX10_keep 42 = .ok (.getfield 99, 3) := by decide +kernel
theorem dX10_keep_45 : decode cX10_keep 45 = .ok (.iload_n 2, 1) := by decide +kernel
theorem dX10_keep_46 : decode cX10_keep 46 = .ok (.iaload, 1) := by decide +kernel
theorem dX10_keep_47 : decode cX10_keep 47 = .ok (.iastore, 1) := by decide +kernel
theorem dX10_keep_48 : decode cX10_keep 48 = .ok (.aload_n 0, 1) := by decide +kernel
theorem dX10_keep_49 : decode cX10_keep 49 = .ok (.getfield 102, 3) := by decide +kernel
theorem dX10_keep_52 : decode cX10_keep 52 = .ok (.iload_n 1, 1) := by decide +kernel
theorem dX10_keep_53 : decode cX10_keep 53 = .ok (.aload_n 0, 1) := by decide +kernel
theorem dX10_keep_54 : decode cX10_keep 54 = .ok (.getfield 102, 3) := by decide +kernel
theorem dX10_keep_57 : decode cX10_keep 57 = .ok (.iload_n 2, 1) := by decide +kernel
theorem dX10_keep_58 : decode cX10_keep 58 = .ok (.iaload, 1) := by decide +kernel
theorem dX10_keep_59 : decode cX10_keep 59 = .ok (.iastore, 1) := by decide +kernel
theorem dX10_keep_60 : decode cX10_keep 60 = .ok (.aload_n 0, 1) := by decide +kernel
theorem dX10_keep_61 : decode cX10_keep 61 = .ok (.getfield 105, 3) := by decide +kernel
theorem dX10_keep_64 : decode cX10_keep 64 = .ok (.iload_n 1, 1) := by decide +kernel
theorem dX10_keep_65 : decode cX10_keep 65 = .ok (.aload_n 0, 1) := by decide +kernel
theorem dX10_keep_66 : decode cX10_keep 66 = .ok (.getfield 105, 3) := by decide +kernel
theorem dX10_keep_69 : decode cX10_keep 69 = .ok (.iload_n 2, 1) := by decide +kernel
theorem dX10_keep_70 : decode cX10_keep 70 = .ok (.iaload, 1) := by decide +kernel
theorem dX10_keep_71 : decode cX10_keep 71 = .ok (.iastore, 1) := by decide +kernel
theorem dX10_keep_72 : decode cX10_keep 72 = .ok (.aload_n 0, 1) := by decide +kernel
theorem dX10_keep_73 : decode cX10_keep 73 = .ok (.getfield 108, 3) := by decide +kernel
theorem dX10_keep_76 : decode cX10_keep 76 = .ok (.iload_n 1, 1) := by decide +kernel
theorem dX10_keep_77 : decode cX10_keep 77 = .ok (.aload_n 0, 1) := by decide +kernel
theorem dX10_keep_78 : decode cX10_keep 78 = .ok (.getfield 108, 3) := by decide +kernel
theorem dX10_keep_81 : decode cX10_keep 81 = .ok (.iload_n 2, 1) := by decide +kernel
theorem dX10_keep_82 : decode cX10_keep 82 = .ok (.baload, 1) := by decide +kernel
theorem dX10_keep_83 : decode cX10_keep 83 = .ok (.bastore, 1) := by decide +kernel
theorem dX10_keep_84 : decode cX10_keep 84 = .ok (.return_, 1) := by decide +kernel
set_option maxRecDepth 20000 in
theorem ggX10_leave_X10_isPeer : GoodIn wsX10_leave wsX10_isPeer := goodIn_r _ [13, 7, 14, 15, 12, 16, 29, 30, 31, 32, 33, 34, 35, 36, 37, 38, 39, 40, 41, 42, 43, 44, 45, 46, 47, 48, 49, 50, 51, 52, 53, 54, 55, 56, 57, 58, 59, 60, 61, 62, 63, 64, 65, 66, 67, 68, 69, 70, 71, 72, 73] (by decide +kernel) (by decide +kernel)
set_option maxRecDepth 20000 in
theorem gX10_leave_X10_isPeer : GoodIn wsX10_leave (wsV RX10 147 RX10 yX10_isPeer wsX10_isPeer) := goodIn_app (goodIn_of _ (by decide +kernel)) ggX10_leave_X10_isPeer
set_option maxRecDepth 20000 in
theorem ggX10_leave_X10_keep : GoodIn wsX10_leave wsX10_keep := goodIn_r _ [20, 4, 5, 21, 22, 23, 24, 25, 29, 30, 31, 32, 33, 34, 35, 36, 37, 38, 39, 40, 41, 42, 43, 44, 45, 46, 47, 48, 49, 50, 51, 52, 53, 54, 55, 56, 57, 58, 59, 60, 61, 62, 63, 64, 65, 66, 67, 68, 69, 70, 71, 72, 73] (by decide +kernel) (by decide +kernel)
set_option maxRecDepth 20000 in
theorem gX10_leave_X10_keep : GoodIn wsX10_leave (wsV RX10 173 RX10 yX10_keep wsX10_keep) := goodIn_app (goodIn_of _ (by decide +kernel)) ggX10_leave_X10_keep
set_option maxRecDepth 20000 in
theorem ggX10_leave_X10_two : GoodIn wsX10_leave wsX10_two := goodIn_r _ [28] (by decide +kernel) (by decide +kernel)
set_option maxRecDepth 20000 in
theorem gX10_leave_X10_two : GoodIn wsX10_leave (va_wsS RX10 151 yX10_two wsX10_two) := goodIn_app (goodIn_of _ (by decide +kernel)) ggX10_leave_X10_two
theorem dX10_leave_0 : decode cX10_leave 0 = .ok (.aload_n 0, 1) := by decide +kernel
theorem dX10_leave_1 : decode cX10_leave 1 = .ok (.iconst 0, 1) := by decide +kernel
theorem dX10_leave_2 : decode cX10_leave 2 = .ok (.putfield 120, 3) := by decide +kernel
theorem dX10_leave_5 : decode cX10_leave 5 = .ok (.aload_n 0, 1) := by decide +kernel
theorem dX10_leave_6 : decode cX10_leave 6 = .ok (.iload_n 1, 1) := by decide +kernel
theorem dX10_leave_7 : decode cX10_leave 7 = .ok (.invokevirtual 147, 3) := by decide +kernel
theorem dX10_leave_10 : decode cX10_leave 10 = .ok (.ifCond .eq 12, 3) := by decide +kernel
theorem dX10_leave_13 : decode cX10_leave 13 = .ok (.aload_n 0, 1) := by decide +kernel
theorem dX10_leave_14 : decode cX10_leave 14 = .ok (.getfield 26, 3) := by decide +kernel
theorem dX10_leave_17 : decode cX10_leave 17 = .ok (.iload_n 1, 1) := by decide +kernel
theorem dX10_leave_18 : decode cX10_leave 18 = .ok (.baload, 1) := by decide +kernel
theorem dX10_leave_19 : decode cX10_leave 19 = .ok (.ifCond .ne 5, 3) := by decide +kernel
theorem dX10_leave_22 : decode cX10_leave 22 = .ok (.iconst 0, 1) := by decide +kernel
theorem dX10_leave_23 : decode cX10_leave 23 = .ok (.ireturn, 1) := by decide +kernel
theorem dX10_leave_24 : decode cX10_leave 24 = .ok (.aload_n 0, 1) := by decide +kernel
theorem dX10_leave_25 : decode cX10_leave 25 = .ok (.getfield 26, 3) := by decide +kernel
theorem dX10_leave_28 : decode cX10_leave 28 = .ok (.iload_n 1, 1) := by decide +kernel
theorem dX10_leave_29 : decode cX10_leave 29 = .ok (.iconst 0, 1) := by decide +kernel
theorem dX10_leave_30 : decode cX10_leave 30 = .ok (.bastore, 1) := by decide +kernel
theorem dX10_leave_31 : decode cX10_leave 31 = .ok (.iconst 0, 1) := by decide +kernel
theorem dX10_leave_32 : decode cX10_leave 32 = .ok (.istore_n 2, 1) := by decide +kernel
theorem dX10_leave_33 : decode cX10_leave 33 = .ok (.iconst 0, 1) := by decide +kernel
theorem dX10_leave_34 : decode cX10_leave 34 = .ok (.istore_n 3, 1) := by decide +kernel
theorem dX10_leave_35 : decode cX10_leave 35 = .ok (.iload_n 3, 1) := by decide +kernel
theorem dX10_leave_36 : decode cX10_leave 36 = .ok (.aload_n 0, 1) := by decide +kernel
theorem dX10_leave_37 : decode cX10_leave 37 = .ok (.getfield 170, 3) := by decide +kernel
theorem dX10_leave_40 : decode cX10_leave 40 = .ok (.if_icmp .ge 41, 3) := by decide +kernel
theorem dX10_leave_43 : decode cX10_leave 43 = .ok (.aload_n 0, 1) := by decide +kernel
theorem dX10_leave_44 : decode cX10_leave 44 = .ok (.getfield 90, 3) := by decide +kernel
theorem dX10_leave_47 : decode cX10_leave 47 = .ok (.iload_n 3, 1) := by decide +kernel
theorem dX10_leave_48 : decode cX10_leave 48 = .ok (.iaload, 1) := by decide +kernel
theorem dX10_leave_49 : decode cX10_leave 49 = .ok (.iload_n 1, 1) := by decide +kernel
theorem dX10_leave_50 : decode cX10_leave 50 = .ok (.if_icmp .eq 25, 3) := by decide +kernel
theorem dX10_leave_53 : decode cX10_leave 53 = .ok (.aload_n 0, 1) := by decide +kernel
theorem dX10_leave_54 : decode cX10_leave 54 = .ok (.getfield 93, 3) := by decide +kernel
theorem dX10_leave_57 : decode cX10_leave 57 = .ok (.iload_n 3, 1) := by decide +kernel
theorem dX10_leave_58 : decode cX10_leave 58 = .ok (.iaload, 1) := by decide +kernel
theorem dX10_leave_59 : decode cX10_leave 59 = .ok (.iload_n 1, 1) := by decide +kernel
theorem dX10_leave_60 : decode cX10_leave 60 = .ok (.if_icmp .ne 6, 3) := by decide +kernel
theorem dX10_leave_63 : decode cX10_leave 63 = .ok (.goto 12, 3) := by decide +kernel
theorem dX10_leave_66 : decode cX10_leave 66 = .ok (.aload_n 0, 1) := by decide +kernel
theorem dX10_leave_67 : decode cX10_leave 67 = .ok (.iload_n 2, 1) := by decide +kernel
theorem dX10_leave_68 : decode cX10_leave 68 = .ok (.iload_n 3, 1) := by decide +kernel
theorem dX10_leave_69 : decode cX10_leave 69 = .ok (.invokevirtual 173, 3) := by decide +kernel
theorem dX10_leave_72 : decode cX10_leave 72 = .ok (.iinc 2 1, 3) := by decide +kernel
theorem dX10_leave_75 : decode cX10_leave 75 = .ok (.iinc 3 1, 3) := by decide +kernel
theorem dX10_leave_78 : decode cX10_leave 78 = .ok (.goto (-43), 3) := by decide +kernel
theorem dX10_leave_81 : decode cX10_leave 81 = .ok (.aload_n 0, 1) := by decide +kernel
theorem dX10_leave_82 : decode cX10_leave 82 = .ok (.dup, 1) := by decide +kernel
theorem dX10_leave_83 : decode cX10_leave 83 = .ok (.getfield 177, 3) := by decide +kernel
theorem dX10_leave_86 : decode cX10_leave 86 = .ok (.aload_n 0, 1) := by decide +kernel
theorem dX10_leave_87 : decode cX10_leave 87 = .ok (.getfield 170, 3) := by decide +kernel
theorem dX10_leave_90 : decode cX10_leave 90 = .ok (.iload_n 2, 1) := by decide +kernel
theorem dX10_leave_91 : decode cX10_leave 91 = .ok (.isub, 1) := by decide +kernel
theorem dX10_leave_92 : decode cX10_leave 92 = .ok (.iadd, 1) := by decide +kernel
theorem dX10_leave_93 : decode cX10_leave 93 = .ok (.putfield 177, 3) := by decide +kernel
theorem dX10_leave_96 : decode cX10_leave 96 = .ok (.aload_n 0, 1) := by decide +kernel
theorem dX10_leave_97 : decode cX10_leave 97 = .ok (.iload_n 2, 1) := by decide +kernel
theorem dX10_leave_98 : decode cX10_leave 98 = .ok (.putfield 170, 3) := by decide +kernel
theorem dX10_leave_101 : decode cX10_leave 101 = .ok (.iconst 0, 1) := by decide +kernel
theorem dX10_leave_102 : decode cX10_leave 102 = .ok (.istore_n 3, 1) := by decide +kernel
theorem dX10_leave_103 : decode cX10_leave 103 = .ok (.iload_n 3, 1) := by decide +kernel
theorem dX10_leave_104 : decode cX10_leave 104 = .ok (.aload_n 0, 1) := by decide +kernel
theorem dX10_leave_105 : decode cX10_leave 105 = .ok (.getfield 136, 3) := by decide +kernel
theorem dX10_leave_108 : decode cX10_leave 108 = .ok (.if_icmp .ge 31, 3) := by decide +kernel
theorem dX10_leave_111 : decode cX10_leave 111 = .ok (.aload_n 0, 1) := by decide +kernel
theorem dX10_leave_112 : decode cX10_leave 112 = .ok (.getfield 66, 3) := by decide +kernel
theorem dX10_leave_115 : decode cX10_leave 115 = .ok (.iload_n 1, 1) := by decide +kernel
theorem dX10_leave_116 : decode cX10_leave 116 = .ok (.iload_n 3, 1) := by decide +kernel
theorem dX10_leave_117 : decode cX10_leave 117 = .ok (.invokestatic 151, 3) := by decide +kernel
theorem dX10_leave_120 : decode cX10_leave 120 = .ok (.iconst 0, 1) := by decide +kernel
theorem dX10_leave_121 : decode cX10_leave 121 = .ok (.bastore, 1) := by decide +kernel
theorem dX10_leave_122 : decode cX10_leave 122 = .ok (.aload_n 0, 1) := by decide +kernel
theorem dX10_leave_123 : decode cX10_leave 123 = .ok (.getfield 66, 3) := by decide +kernel
theorem dX10_leave_126 : decode cX10_leave 126 = .ok (.iload_n 3, 1) := by decide +kernel
theorem dX10_leave_127 : decode cX10_leave 127 = .ok (.iload_n 1, 1) := by decide +kernel
theorem dX10_leave_128 : decode cX10_leave 128 = .ok (.invokestatic 151, 3) := by decide +kernel
theorem dX10_leave_131 : decode cX10_leave 131 = .ok (.iconst 0, 1) := by decide +kernel
theorem dX10_leave_132 : decode cX10_leave 132 = .ok (.bastore, 1) := by decide +kernel
theorem dX10_leave_133 : decode cX10_leave 133 = .ok (.iinc 3 1, 3) := by decide +kernel
theorem dX10_leave_136 : decode cX10_leave 136 = .ok (.goto (-33), 3) := by decide +kernel
theorem dX10_leave_139 : decode cX10_leave 139 = .ok (.iconst 1, 1) := by decide +kernel
theorem dX10_leave_140 : decode cX10_leave 140 = .ok (.ireturn, 1) := by decide +kernel
set_option maxRecDepth 20000 in
theorem ggX10_join_X10_isPeer : GoodIn wsX10_join wsX10_isPeer := goodIn_r _ [7, 8, 9, 10, 6, 11, 12, 13, 14, 15, 16, 17, 18, 19, 20, 21, 22, 23, 24, 25, 26, 27, 28, 29, 30, 31, 32, 33, 34, 35, 36, 37, 38, 39, 40, 41, 42, 43, 44, 45, 46, 47, 48, 49, 50, 51, 52, 53, 54, 55, 56] (by decide +kernel) (by decide +kernel)
set_option maxRecDepth 20000 in
theorem gX10_join_X10_isPeer : GoodIn wsX10_join (wsV RX10 147 RX10 yX10_isPeer wsX10_isPeer) := goodIn_app (goodIn_of _ (by decide +kernel)) ggX10_join_X10_isPeer
theorem dX10_join_0 : decode cX10_join 0 = .ok (.aload_n 0, 1) := by decide +kernel
theorem dX10_join_1 : decode cX10_join 1 = .ok (.iconst 0, 1) := by decide +kernel
theorem dX10_join_2 : decode cX10_join 2 = .ok (.putfield 120, 3) := by decide +kernel
theorem dX10_join_5 : decode cX10_join 5 = .ok (.aload_n 0, 1) := by decide +kernel
theorem dX10_join_6 : decode cX10_join 6 = .ok (.iload_n 1, 1) := by decide +kernel
theorem dX10_join_7 : decode cX10_join 7 = .ok (.invokevirtual 147, 3) := by decide +kernel
theorem dX10_join_10 : decode cX10_join 10 = .ok (.ifCond .eq 12, 3) := by decide +kernel
theorem dX10_join_13 : decode cX10_join 13 = .ok (.aload_n 0, 1) := by decide +kernel
theorem dX10_join_14 : decode cX10_join 14 = .ok (.getfield 26, 3) := by decide +kernel
theorem dX10_join_17 : decode cX10_join 17 = .ok (.iload_n 1, 1) := by decide +kernel
theorem dX10_join_18 : decode cX10_join 18 = .ok (.baload, 1) := by decide +kernel
theorem dX10_join_19 : decode cX10_join 19 = .ok (.ifCond .eq 5, 3) := by decide +kernel
theorem dX10_join_22 : decode cX10_join 22 = .ok (.iconst 0, 1) := by decide +kernel
theorem dX10_join_23 : decode cX10_join 23 = .ok (.ireturn, 1) := by decide +kernel
theorem dX10_join_24 : decode cX10_join 24 = .ok (.aload_n 0, 1) := by decide +kernel
theorem dX10_join_25 : decode cX10_join 25 = .ok (.getfield 26, 3) := by decide +kernel
theorem dX10_join_28 : decode cX10_join 28 = .ok (.iload_n 1, 1) := by decide +kernel
theorem dX10_join_29 : decode cX10_join 29 = .ok (.iconst 1, 1) := by decide +kernel
theorem dX10_join_30 : decode cX10_join 30 = .ok (.bastore, 1) := by decide +kernel
theorem dX10_join_31 : decode cX10_join 31 = .ok (.iconst 1, 1) := by decide +kernel
theorem dX10_join_32 : decode cX10_join 32 = .ok (.ireturn, 1) := by decide +kernel
set_option maxRecDepth 20000 in
theorem ggX10_dropPiece_X10_cell : GoodIn wsX10_dropPiece wsX10_cell := goodIn_r _ [6] (by decide +kernel) (by decide +kernel)
set_option maxRecDepth 20000 in
theorem gX10_dropPiece_X10_cell : GoodIn wsX10_dropPiece (va_wsS RX10 163 yX10_cell wsX10_cell) := goodIn_app (goodIn_of _ (by decide +kernel)) ggX10_dropPiece_X10_cell
theorem dX10_dropPiece_0 : decode cX10_dropPiece 0 = .ok (.iconst 0, 1) := by decide +kernel
theorem dX10_dropPiece_1 : decode cX10_dropPiece 1 = .ok (.istore_n 3, 1) := by decide +kernel
theorem dX10_dropPiece_2 : decode cX10_dropPiece 2 = .ok (.iload_n 3, 1) := by decide +kernel
theorem dX10_dropPiece_3 : decode cX10_dropPiece 3 = .ok (.aload_n 0, 1) := by decide +kernel
theorem dX10_dropPiece_4 : decode cX10_dropPiece 4 = .ok (.getfield 13, 3) := by decide +kernel
theorem dX10_dropPiece_7 : decode cX10_dropPiece 7 = .ok (.if_icmp .ge 21, 3) := by decide +kernel
theorem dX10_dropPiece_10 : decode cX10_dropPiece 10 = .ok (.aload_n 0, 1) := by decide +kernel
theorem dX10_dropPiece_11 : decode cX10_dropPiece 11 = .ok (.getfield 54, 3) := by decide +kernel
theorem dX10_dropPiece_14 : decode cX10_dropPiece 14 = .ok (.iload_n 1, 1) := by decide +kernel
theorem dX10_dropPiece_15 : decode cX10_dropPiece 15 = .ok (.iload_n 2, 1) := by decide +kernel
theorem dX10_dropPiece_16 : decode cX10_dropPiece 16 = .ok (.iload_n 3, 1) := by decide +kernel
theorem dX10_dropPiece_17 : decode cX10_dropPiece 17 = .ok (.invokestatic 163, 3) := by decide +kernel
theorem dX10_dropPiece_20 : decode cX10_dropPiece 20 = .ok (.iconst 0, 1) := by decide +kernel
theorem dX10_dropPiece_21 : decode cX10_dropPiece 21 = .ok (.bastore, 1) := by decide +kernel
theorem dX10_dropPiece_22 : decode cX10_dropPiece 22 = .ok (.iinc 3 1, 3) := by decide +kernel
theorem dX10_dropPiece_25 : decode cX10_dropPiece 25 = .ok (.goto (-23), 3) := by decide +kernel
theorem dX10_dropPiece_28 : decode cX10_dropPiece 28 = .ok (.return_, 1) := by decide +kernel
set_option maxRecDepth 20000 in
theorem ggX10_fails_X10_cell : GoodIn wsX10_fails wsX10_cell := goodIn_r _ [12] (by decide +kernel) (by decide +kernel)
set_option maxRecDepth 20000 in
theorem gX10_fails_X10_cell : GoodIn wsX10_fails (va_wsS RX10 163 yX10_cell wsX10_cell) := goodIn_app (goodIn_of _ (by decide +kernel)) ggX10_fails_X10_cell
set_option maxRecDepth 20000 in
theorem ggX10_fails_X10_two : GoodIn wsX10_fails wsX10_two := goodIn_r _ [15] (by decide +kernel) (by decide +kernel)
set_option maxRecDepth 20000 in
theorem gX10_fails_X10_two : GoodIn wsX10_fails (va_wsS RX10 151 yX10_two wsX10_two) := goodIn_app (goodIn_of _ (by decide +kernel)) ggX10_fails_X10_two
set_option maxRecDepth 20000 in
theorem ggX10_fails_X10_dropPiece : GoodIn wsX10_fails wsX10_dropPiece := goodIn_r _ [19, 3, 20, 9, 10, 11, 12, 21, 22, 23, 24, 25, 26, 27, 28, 29, 30, 31, 32, 33, 34, 35, 36, 37, 38, 39, 40, 41, 42, 43, 44, 45, 46, 47, 48, 49, 50, 51, 52, 53, 54, 55, 56, 57, 58, 59, 60, 61, 62, 63, 64, 65] (by decide +kernel) (by decide +kernel)
set_option maxRecDepth 20000 in
theorem gX10_fails_X10_dropPiece : GoodIn wsX10_fails (wsV RX10 183 RX10 yX10_dropPiece wsX10_dropPiece) := goodIn_app (goodIn_of _ (by decide +kernel)) ggX10_fails_X10_dropPiece
theorem dX10_fails_0 : decode cX10_fails 0 = .ok (.aload_n 0, 1) := by decide +kernel
theorem dX10_fails_1 : decode cX10_fails 1 = .ok (.getfield 42, 3) := by decide +kernel
theorem dX10_fails_4 : decode cX10_fails 4 = .ok (.iload_n 1, 1) := by decide +kernel
theorem dX10_fails_5 : decode cX10_fails 5 = .ok (.dup2, 1) := by decide +kernel
theorem dX10_fails_6 : decode cX10_fails 6 = .ok (.iaload, 1) := by decide +kernel
theorem dX10_fails_7 : decode cX10_fails 7 = .ok (.iconst 1, 1) := by decide +kernel
theorem dX10_fails_8 : decode cX10_fails 8 = .ok (.iadd, 1) := by decide +kernel
theorem dX10_fails_9 : decode cX10_fails 9 = .ok (.iastore, 1) := by decide +kernel
theorem dX10_fails_10 : decode cX10_fails 10 = .ok (.aload_n 0, 1) := by decide +kernel
theorem dX10_fails_11 : decode cX10_fails 11 = .ok (.dup, 1) := by decide +kernel
theorem dX10_fails_12 : decode cX10_fails 12 = .ok (.getfield 180, 3) := by decide +kernel
theorem dX10_fails_15 : decode cX10_fails 15 = .ok (.iconst 1, 1) := by decide +kernel
theorem dX10_fails_16 : decode cX10_fails 16 = .ok (.iadd, 1) := by decide +kernel
theorem dX10_fails_17 : decode cX10_fails 17 = .ok (.putfield 180, 3) := by decide +kernel
theorem dX10_fails_20 : decode cX10_fails 20 = .ok (.iconst 1, 1) := by decide +kernel
theorem dX10_fails_21 : decode cX10_fails 21 = .ok (.istore_n 3, 1) := by decide +kernel
theorem dX10_fails_22 : decode cX10_fails 22 = .ok (.iconst 1, 1) := by decide +kernel
theorem dX10_fails_23 : decode cX10_fails 23 = .ok (.istore 4, 2) := by decide +kernel
theorem dX10_fails_25 : decode cX10_fails 25 = .ok (.iload 4, 2) := by decide +kernel
theorem dX10_fails_27 : decode cX10_fails 27 = .ok (.aload_n 0, 1) := by decide +kernel
theorem dX10_fails_28 : decode cX10_fails 28 = .ok (.getfield 13, 3) := by decide +kernel
theorem dX10_fails_31 : decode cX10_fails 31 = .ok (.if_icmp .ge 45, 3) := by decide +kernel
theorem dX10_fails_34 : decode cX10_fails 34 = .ok (.iload_n 3, 1) := by decide +kernel
theorem dX10_fails_35 : decode cX10_fails 35 = .ok (.ifCond .eq 33, 3) := by decide +kernel
theorem dX10_fails_38 : decode cX10_fails 38 = .ok (.aload_n 0, 1) := by decide +kernel
theorem dX10_fails_39 : decode cX10_fails 39 = .ok (.getfield 60, 3) := by decide +kernel
theorem dX10_fails_42 : decode cX10_fails 42 = .ok (.iload_n 1, 1) := by decide +kernel
theorem dX10_fails_43 : decode cX10_fails 43 = .ok (.iload_n 2, 1) := by decide +kernel
theorem dX10_fails_44 : decode cX10_fails 44 = .ok (.iload 4, 2) := by decide +kernel
theorem dX10_fails_46 : decode cX10_fails 46 = .ok (.invokestatic 163, 3) := by decide +kernel
theorem dX10_fails_49 : decode cX10_fails 49 = .ok (.iaload, 1) := by decide +kernel
theorem dX10_fails_50 : decode cX10_fails 50 = .ok (.aload_n 0, 1) := by decide +kernel
theorem dX10_fails_51 : decode cX10_fails 51 = .ok (.getfield 60, 3) := by decide +kernel
theorem dX10_fails_54 : decode cX10_fails 54 = .ok (.iload_n 1, 1) := by decide +kernel
theorem dX10_fails_55 : decode cX10_fails 55 = .ok (.iload_n 2, 1) := by decide +kernel
theorem dX10_fails_56 : decode cX10_fails 56 = .ok (.iconst 0, 1) := by decide +kernel
theorem dX10_fails_57 : decode cX10_fails 57 = .ok (.invokestatic 163, 3) := by decide +kernel
theorem dX10_fails_60 : decode cX10_fails 60 = .ok (.iaload, 1) := by decide +kernel
theorem dX10_fails_61 : decode cX10_fails 61 = .ok (.if_icmp .ne 7, 3) := by decide +kernel
theorem dX10_fails_64 : decode cX10_fails 64 = .ok (.iconst 1, 1) := by decide +kernel
theorem dX10_fails_65 : decode cX10_fails 65 = .ok (.goto 4, 3) := by decide +kernel
theorem dX10_fails_68 : decode cX10_fails 68 = .ok (.iconst 0, 1) := by decide +kernel
theorem dX10_fails_69 : decode cX10_fails 69 = .ok (.istore_n 3, 1) := by decide +kernel
theorem dX10_fails_70 : decode cX10_fails 70 = .ok (.iinc 4 1, 3) := by decide +kernel
theorem dX10_fails_73 : decode cX10_fails 73 = .ok (.goto (-48), 3) := by decide +kernel
theorem dX10_fails_76 : decode cX10_fails 76 = .ok (.iconst 0, 1) := by decide +kernel
theorem dX10_fails_77 : decode cX10_fails 77 = .ok (.istore 4, 2) := by decide +kernel
theorem dX10_fails_79 : decode cX10_fails 79 = .ok (.iload 4, 2) := by decide +kernel
theorem dX10_fails_81 : decode cX10_fails 81 = .ok (.aload_n 0, 1) := by decide +kernel
theorem dX10_fails_82 : decode cX10_fails 82 = .ok (.getfield 136, 3) := by decide +kernel
theorem dX10_fails_85 : decode cX10_fails 85 = .ok (.if_icmp .ge 100, 3) := by decide +kernel
theorem dX10_fails_88 : decode cX10_fails 88 = .ok (.iconst 0, 1) := by decide +kernel
theorem dX10_fails_89 : decode cX10_fails 89 = .ok (.istore 5, 2) := by decide +kernel
theorem dX10_fails_91 : decode cX10_fails 91 = .ok (.iconst 0, 1) := by decide +kernel
theorem dX10_fails_92 : decode cX10_fails 92 = .ok (.istore 6, 2) := by decide +kernel
theorem dX10_fails_94 : decode cX10_fails 94 = .ok (.iload 6, 2) := by decide +kernel
theorem dX10_fails_96 : decode cX10_fails 96 = .ok (.aload_n 0, 1) := by decide +kernel
theorem dX10_fails_97 : decode cX10_fails 97 = .ok (.getfield 13, 3) := by decide +kernel
theorem dX10_fails_100 : decode cX10_fails 100 = .ok (.if_icmp .ge 38, 3) := by decide +kernel
theorem dX10_fails_103 : decode cX10_fails 103 = .ok (.iload 5, 2) := by decide +kernel
theorem dX10_fails_105 : decode cX10_fails 105 = .ok (.ifCond .ne 20, 3) := by decide +kernel
theorem dX10_fails_108 : decode cX10_fails 108 = .ok (.aload_n 0, 1) := by decide +kernel
theorem dX10_fails_109 : decode cX10_fails 109 = .ok (.getfield 60, 3) := by decide +kernel
theorem dX10_fails_112 : decode cX10_fails 112 = .ok (.iload_n 1, 1) := by decide +kernel
theorem dX10_fails_113 : decode cX10_fails 113 = .ok (.iload_n 2, 1) := by decide +kernel
theorem dX10_fails_114 : decode cX10_fails 114 = .ok (.iload 6, 2) := by decide +kernel
theorem dX10_fails_116 : decode cX10_fails 116 = .ok (.invokestatic 163, 3) := by decide +kernel
theorem dX10_fails_119 : decode cX10_fails 119 = .ok (.iaload, 1) := by decide +kernel
theorem dX10_fails_120 : decode cX10_fails 120 = .ok (.iload 4, 2) := by decide +kernel
theorem dX10_fails_122 : decode cX10_fails 122 = .ok (.if_icmp .ne 7, 3) := by decide +kernel
theorem dX10_fails_125 : decode cX10_fails 125 = .ok (.iconst 1, 1) := by decide +kernel
theorem dX10_fails_126 : decode cX10_fails 126 = .ok (.goto 4, 3) := by decide +kernel
theorem dX10_fails_129 : decode cX10_fails 129 = .ok (.iconst 0, 1) := by decide +kernel
theorem dX10_fails_130 : decode cX10_fails 130 = .ok (.istore 5, 2) := by decide +kernel
theorem dX10_fails_132 : decode cX10_fails 132 = .ok (.iinc 6 1, 3) := by decide +kernel
theorem dX10_fails_135 : decode cX10_fails 135 = .ok (.goto (-41), 3) := by decide +kernel
theorem dX10_fails_138 : decode cX10_fails 138 = .ok (.iload 5, 2) := by decide +kernel
theorem dX10_fails_140 : decode cX10_fails 140 = .ok (.ifCond .eq 18, 3) := by decide +kernel
theorem dX10_fails_143 : decode cX10_fails 143 = .ok (.aload_n 0, 1) := by decide +kernel
theorem dX10_fails_144 : decode cX10_fails 144 = .ok (.getfield 72, 3) := by decide +kernel
theorem dX10_fails_147 : decode cX10_fails 147 = .ok (.iload_n 1, 1) := by decide +kernel
theorem dX10_fails_148 : decode cX10_fails 148 = .ok (.iload 4, 2) := by decide +kernel
theorem dX10_fails_150 : decode cX10_fails 150 = .ok (.invokestatic 151, 3) := by decide +kernel
theorem dX10_fails_153 : decode cX10_fails 153 = .ok (.dup2, 1) := by decide +kernel
theorem dX10_fails_154 : decode cX10_fails 154 = .ok (.iaload, 1) := by decide +kernel
theorem dX10_fails_155 : decode cX10_fails 155 = .ok (.iconst 1, 1) := by decide +kernel
theorem dX10_fails_156 : decode cX10_fails 156 = .ok (.iadd, 1) := by decide +kernel
theorem dX10_fails_157 : decode cX10_fails 157 = .ok (.iastore, 1) := by decide +kernel
theorem dX10_fails_158 : decode cX10_fails 158 = .ok (.iload 5, 2) := by decide +kernel
theorem dX10_fails_160 : decode cX10_fails 160 = .ok (.ifCond .eq 19, 3) := by decide +kernel
theorem dX10_fails_163 : decode cX10_fails 163 = .ok (.iload_n 3, 1) := by decide +kernel
theorem dX10_fails_164 : decode cX10_fails 164 = .ok (.ifCond .eq 15, 3) := by decide +kernel
theorem dX10_fails_167 : decode cX10_fails 167 = .ok (.aload_n 0, 1) := by decide +kernel
theorem dX10_fails_168 : decode cX10_fails 168 = .ok (.getfield 69, 3) := by decide +kernel
theorem dX10_fails_171 : decode cX10_fails 171 = .ok (.iload_n 1, 1) := by decide +kernel
theorem dX10_fails_172 : decode cX10_fails 172 = .ok (.iload 4, 2) := by decide +kernel
theorem dX10_fails_174 : decode cX10_fails 174 = .ok (.invokestatic 151, 3) := by decide +kernel
theorem dX10_fails_177 : decode cX10_fails 177 = .ok (.iconst 1, 1) := by decide +kernel
theorem dX10_fails_178 : decode cX10_fails 178 = .ok (.bastore, 1) := by decide +kernel
theorem dX10_fails_179 : decode cX10_fails 179 = .ok (.iinc 4 1, 3) := by decide +kernel
theorem dX10_fails_182 : decode cX10_fails 182 = .ok (.goto (-103), 3) := by decide +kernel
theorem dX10_fails_185 : decode cX10_fails 185 = .ok (.aload_n 0, 1) := by decide +kernel
theorem dX10_fails_186 : decode cX10_fails 186 = .ok (.iload_n 1, 1) := by decide +kernel
theorem dX10_fails_187 : decode cX10_fails 187 = .ok (.iload_n 2, 1) := by decide +kernel
theorem dX10_fails_188 : decode cX10_fails 188 = .ok (.invokevirtual 183, 3) := by decide +kernel
theorem dX10_fails_191 : decode cX10_fails 191 = .ok (.aload_n 0, 1) := by decide +kernel
theorem dX10_fails_192 : decode cX10_fails 192 = .ok (.getfield 51, 3) := by decide +kernel
theorem dX10_fails_195 : decode cX10_fails 195 = .ok (.bipush 24, 2) := by decide +kernel
theorem dX10_fails_197 : decode cX10_fails 197 = .ok (.iload_n 1, 1) := by decide +kernel
theorem dX10_fails_198 : decode cX10_fails 198 = .ok (.imul, 1) := by decide +kernel
theorem dX10_fails_199 : decode cX10_fails 199 = .ok (.iload_n 2, 1) := by decide +kernel
theorem dX10_fails_200 : decode cX10_fails 200 = .ok (.iadd, 1) := by decide +kernel
theorem dX10_fails_201 : decode cX10_fails 201 = .ok (.iconst 1, 1) := by decide +kernel
theorem dX10_fails_202 : decode cX10_fails 202 = .ok (.bastore, 1) := by decide +kernel
theorem dX10_fails_203 : decode cX10_fails 203 = .ok (.return_, 1) := by decide +kernel
set_option maxRecDepth 20000 in
theorem ggX10_isSpare_X10_cell : GoodIn wsX10_isSpare wsX10_cell := goodIn_r _ [9] (by decide +kernel) (by decide +kernel)
set_option maxRecDepth 20000 in
theorem gX10_isSpare_X10_cell : GoodIn wsX10_isSpare (va_wsS RX10 163 yX10_cell wsX10_cell) := goodIn_app (goodIn_of _ (by decide +kernel)) ggX10_isSpare_X10_cell
theorem dX10_isSpare_0 : decode cX10_isSpare 0 = .ok (.aload_n 0, 1) := by decide +kernel
theorem dX10_isSpare_1 : decode cX10_isSpare 1 = .ok (.getfield 48, 3) := by decide +kernel
theorem dX10_isSpare_4 : decode cX10_isSpare 4 = .ok (.bipush 24, 2) := by decide +kernel
theorem dX10_isSpare_6 : decode cX10_isSpare 6 = .ok (.iload_n 1, 1) := by decide +kernel
theorem dX10_isSpare_7 : decode cX10_isSpare 7 = .ok (.imul, 1) := by decide +kernel
theorem dX10_isSpare_8 : decode cX10_isSpare 8 = .ok (.iload_n 3, 1) := by decide +kernel
theorem dX10_isSpare_9 : decode cX10_isSpare 9 = .ok (.iadd, 1) := by decide +kernel
theorem dX10_isSpare_10 : decode cX10_isSpare 10 = .ok (.baload, 1) := by decide +kernel
theorem dX10_isSpare_11 : decode cX10_isSpare 11 = .ok (.ifCond .ne 18, 3) := by decide +kernel
theorem dX10_isSpare_14 : decode cX10_isSpare 14 = .ok (.aload_n 0, 1) := by decide +kernel
theorem dX10_isSpare_15 : decode cX10_isSpare 15 = .ok (.getfield 54, 3) := by decide +kernel
theorem dX10_isSpare_18 : decode cX10_isSpare 18 = .ok (.iload_n 1, 1) := by decide +kernel
theorem dX10_isSpare_19 : decode cX10_isSpare 19 = .ok (.iload_n 3, 1) := by decide +kernel
theorem dX10_isSpare_20 : decode cX10_isSpare 20 = .ok (.iload 4, 2) := by decide +kernel
theorem dX10_isSpare_22 : decode cX10_isSpare 22 = .ok (.invokestatic 163, 3) := by decide +kernel
theorem dX10_isSpare_25 : decode cX10_isSpare 25 = .ok (.baload, 1) := by decide +kernel
theorem dX10_isSpare_26 : decode cX10_isSpare 26 = .ok (.ifCond .eq 5, 3) := by decide +kernel
theorem dX10_isSpare_29 : decode cX10_isSpare 29 = .ok (.iconst 1, 1) := by decide +kernel
theorem dX10_isSpare_30 : decode cX10_isSpare 30 = .ok (.ireturn, 1) := by decide +kernel
theorem dX10_isSpare_31 : decode cX10_isSpare 31 = .ok (.iconst 0, 1) := by decide +kernel
theorem dX10_isSpare_32 : decode cX10_isSpare 32 = .ok (.istore 5, 2) := by decide +kernel
theorem dX10_isSpare_34 : decode cX10_isSpare 34 = .ok (.iload 5, 2) := by decide +kernel
theorem dX10_isSpare_36 : decode cX10_isSpare 36 = .ok (.aload_n 0, 1) := by decide +kernel
theorem dX10_isSpare_37 : decode cX10_isSpare 37 = .ok (.getfield 13, 3) := by decide +kernel
theorem dX10_isSpare_40 : decode cX10_isSpare 40 = .ok (.if_icmp .ge 56, 3) := by decide +kernel
theorem dX10_isSpare_43 : decode cX10_isSpare 43 = .ok (.aload_n 0, 1) := by decide +kernel
theorem dX10_isSpare_44 : decode cX10_isSpare 44 = .ok (.getfield 51, 3) := by decide +kernel
theorem dX10_isSpare_47 : decode cX10_isSpare 47 = .ok (.bipush 24, 2) := by decide +kernel
theorem dX10_isSpare_49 : decode cX10_isSpare 49 = .ok (.iload_n 1, 1) := by decide +kernel
theorem dX10_isSpare_50 : decode cX10_isSpare 50 = .ok (.imul, 1) := by decide +kernel
theorem dX10_isSpare_51 : decode cX10_isSpare 51 = .ok (.iload_n 3, 1) := by decide +kernel
theorem dX10_isSpare_52 : decode cX10_isSpare 52 = .ok (.iadd, 1) := by decide +kernel
theorem dX10_isSpare_53 : decode cX10_isSpare 53 = .ok (.baload, 1) := by decide +kernel
theorem dX10_isSpare_54 : decode cX10_isSpare 54 = .ok (.ifCond .eq 42, 3) := by decide +kernel
theorem dX10_isSpare_57 : decode cX10_isSpare 57 = .ok (.aload_n 0, 1) := by decide +kernel
theorem dX10_isSpare_58 : decode cX10_isSpare 58 = .ok (.getfield 54, 3) := by decide +kernel
theorem dX10_isSpare_61 : decode cX10_isSpare 61 = .ok (.iload_n 1, 1) := by decide +kernel
theorem dX10_isSpare_62 : decode cX10_isSpare 62 = .ok (.iload_n 3, 1) := by decide +kernel
theorem dX10_isSpare_63 : decode cX10_isSpare 63 = .ok (.iload 5, 2) := by decide +kernel
theorem dX10_isSpare_65 : decode cX10_isSpare 65 = .ok (.invokestatic 163, 3) := by decide +kernel
theorem dX10_isSpare_68 : decode cX10_isSpare 68 = .ok (.baload, 1) := by decide +kernel
theorem dX10_isSpare_69 : decode cX10_isSpare 69 = .ok (.ifCond .eq 21, 3) := by decide +kernel
theorem dX10_isSpare_72 : decode cX10_isSpare 72 = .ok (.aload_n 0, 1) := by decide +kernel
theorem dX10_isSpare_73 : decode cX10_isSpare 73 = .ok (.getfield 60, 3) := by decide +kernel
theorem dX10_isSpare_76 : decode cX10_isSpare 76 = .ok (.iload_n 1, 1) := by decide +kernel
theorem dX10_isSpare_77 : decode cX10_isSpare 77 = .ok (.iload_n 3, 1) := by decide +kernel
theorem dX10_isSpare_78 : decode cX10_isSpare 78 = .ok (.iload 5, 2) := by decide +kernel
theorem dX10_isSpare_80 : decode cX10_isSpare 80 = .ok (.invokestatic 163, 3) := by decide +kernel
theorem dX10_isSpare_83 : decode cX10_isSpare 83 = .ok (.iaload, 1) := by decide +kernel
theorem dX10_isSpare_84 : decode cX10_isSpare 84 = .ok (.iload_n 2, 1) := by decide +kernel
theorem dX10_isSpare_85 : decode cX10_isSpare 85 = .ok (.if_icmp .eq 5, 3) := by decide +kernel
theorem dX10_isSpare_88 : decode cX10_isSpare 88 = .ok (.iconst 1, 1) := by decide +kernel
theorem dX10_isSpare_89 : decode cX10_isSpare 89 = .ok (.ireturn, 1) := by decide +kernel
theorem dX10_isSpare_90 : decode cX10_isSpare 90 = .ok (.iinc 5 1, 3) := by decide +kernel
theorem dX10_isSpare_93 : decode cX10_isSpare 93 = .ok (.goto (-59), 3) := by decide +kernel
theorem dX10_isSpare_96 : decode cX10_isSpare 96 = .ok (.iconst 0, 1) := by decide +kernel
theorem dX10_isSpare_97 : decode cX10_isSpare 97 = .ok (.ireturn, 1) := by decide +kernel
set_option maxRecDepth 20000 in
theorem ggX10_comes_X10_two : GoodIn wsX10_comes wsX10_two := goodIn_r _ [21] (by decide +kernel) (by decide +kernel)
set_option maxRecDepth 20000 in
theorem gX10_comes_X10_two : GoodIn wsX10_comes (va_wsS RX10 151 yX10_two wsX10_two) := goodIn_app (goodIn_of _ (by decide +kernel)) ggX10_comes_X10_two
set_option maxRecDepth 20000 in
theorem ggX10_comes_X10_isSpare : GoodIn wsX10_comes wsX10_isSpare := goodIn_r _ [25, 15, 9, 13, 26, 12, 27, 28, 20, 29, 66, 67, 68, 69, 70, 71, 72, 73, 74, 75, 76, 77, 78, 79, 80, 81, 82, 83, 84, 85, 86, 87, 88, 89, 90, 91, 92, 93, 94, 95, 96, 97, 98, 99, 100, 101, 102, 103, 104, 105, 106, 107, 108, 109, 110] (by decide +kernel) (by decide +kernel)
set_option maxRecDepth 20000 in
theorem gX10_comes_X10_isSpare : GoodIn wsX10_comes (wsV RX10 186 RX10 yX10_isSpare wsX10_isSpare) := goodIn_app (goodIn_of _ (by decide +kernel)) ggX10_comes_X10_isSpare
set_option maxRecDepth 20000 in
theorem ggX10_comes_X10_cell : GoodIn wsX10_comes wsX10_cell := goodIn_r _ [29] (by decide +kernel) (by decide +kernel)
set_option maxRecDepth 20000 in
theorem gX10_comes_X10_cell : GoodIn wsX10_comes (va_wsS RX10 163 yX10_cell wsX10_cell) := goodIn_app (goodIn_of _ (by decide +kernel)) ggX10_comes_X10_cell
set_option maxRecDepth 20000 in
theorem ggX10_comes_X10_heldMany : GoodIn wsX10_comes wsX10_heldMany := goodIn_r _ [33, 13, 9, 27, 28, 20, 29, 66, 67, 68, 69, 70, 71, 72, 73, 74, 75, 76, 77, 78, 79, 80, 81, 82, 83, 84, 85, 86, 87, 88, 89, 90, 91, 92, 93, 94, 95, 96, 97, 98, 99, 100, 101, 102, 103, 104, 105, 106, 107, 108, 109, 110] (by decide +kernel) (by decide +kernel)
set_option maxRecDepth 20000 in
theorem gX10_comes_X10_heldMany : GoodIn wsX10_comes (wsV RX10 193 RX10 yX10_heldMany wsX10_heldMany) := goodIn_app (goodIn_of _ (by decide +kernel)) ggX10_comes_X10_heldMany
set_option maxRecDepth 20000 in
theorem ggX10_comes_X10_sumOf : GoodIn wsX10_comes wsX10_sumOf := goodIn_r _ [37, 13, 14, 38, 39, 40, 20, 41, 42, 43, 66, 67, 68, 69, 70, 71, 72, 73, 74, 75, 76, 77, 78, 79, 80, 81, 82, 83, 84, 85, 86, 87, 88, 89, 90, 91, 92, 93, 94, 95, 96, 97, 98, 99, 100, 101, 102, 103, 104, 105, 106, 107, 108, 109, 110] (by decide +kernel) (by decide +kernel)
set_option maxRecDepth 20000 in
theorem gX10_comes_X10_sumOf : GoodIn wsX10_comes (wsV RX10 143 RX10 yX10_sumOf wsX10_sumOf) := goodIn_app (goodIn_of _ (by decide +kernel)) ggX10_comes_X10_sumOf
set_option maxRecDepth 20000 in
theorem ggX10_comes_X10_fails : GoodIn wsX10_comes wsX10_fails := goodIn_r _ [47, 48, 49, 13, 12, 50, 51, 52, 26, 27, 28, 20, 29, 18, 19, 21, 53, 54, 55, 56, 9, 66, 67, 68, 69, 70, 71, 72, 73, 74, 75, 76, 77, 78, 79, 80, 81, 82, 83, 84, 85, 86, 87, 88, 89, 90, 91, 92, 93, 94, 95, 96, 97, 98, 99, 100, 101, 102, 103, 104, 105, 106, 107, 108, 109, 110] (by decide +kernel) (by decide +kernel)
set_option maxRecDepth 20000 in
theorem gX10_comes_X10_fails : GoodIn wsX10_comes (wsV RX10 196 RX10 yX10_fails wsX10_fails) := goodIn_app (goodIn_of _ (by decide +kernel)) ggX10_comes_X10_fails
set_option maxRecDepth 20000 in
theorem ggX10_comes_X10_isDone : GoodIn wsX10_comes wsX10_isDone := goodIn_r _ [60, 61, 62, 63, 64, 20, 65, 15, 66, 67, 68, 69, 70, 71, 72, 73, 74, 75, 76, 77, 78, 79, 80, 81, 82, 83, 84, 85, 86, 87, 88, 89, 90, 91, 92, 93, 94, 95, 96, 97, 98, 99, 100, 101, 102, 103, 104, 105, 106, 107, 108, 109, 110] (by decide +kernel) (by decide +kernel)
set_option maxRecDepth 20000 in
theorem gX10_comes_X10_isDone : GoodIn wsX10_comes (wsV RX10 199 RX10 yX10_isDone wsX10_isDone) := goodIn_app (goodIn_of _ (by decide +kernel)) ggX10_comes_X10_isDone
theorem dX10_comes_0 : decode cX10_comes 0 = .ok (.aload_n 0, 1) := by decide +kernel
theorem dX10_comes_1 : decode cX10_comes 1 = .ok (.getfield 90, 3) := by decide +kernel
theorem dX10_comes_4 : decode cX10_comes 4 = .ok (.iload_n 1, 1) := by decide +kernel
theorem dX10_comes_5 : decode cX10_comes 5 = .ok (.iaload, 1) := by decide +kernel
theorem dX10_comes_6 : decode cX10_comes 6 = .ok (.istore_n 2, 1) := by decide +kernel
theorem dX10_comes_7 : decode cX10_comes 7 = .ok (.aload_n 0, 1) := by decide +kernel
theorem dX10_comes_8 : decode cX10_comes 8 = .ok (.getfield 93, 3) := by decide +kernel
theorem dX10_comes_11 : decode cX10_comes 11 = .ok (.iload_n 1, 1) := by decide +kernel
theorem dX10_comes_12 : decode cX10_comes 12 = .ok (.iaload, 1) := by decide +kernel
theorem dX10_comes_13 : decode cX10_comes 13 = .ok (.istore_n 3, 1) := by decide +kernel
theorem dX10_comes_14 : decode cX10_comes 14 = .ok (.aload_n 0, 1) := by decide +kernel
theorem dX10_comes_15 : decode cX10_comes 15 = .ok (.getfield 96, 3) := by decide +kernel
theorem dX10_comes_18 : decode cX10_comes 18 = .ok (.iload_n 1, 1) := by decide +kernel
theorem dX10_comes_19 : decode cX10_comes 19 = .ok (.iaload, 1) := by decide +kernel
theorem dX10_comes_20 : decode cX10_comes 20 = .ok (.istore 4, 2) := by decide +kernel
theorem dX10_comes_22 : decode cX10_comes 22 = .ok (.aload_n 0, 1) := by decide +kernel
theorem dX10_comes_23 : decode cX10_comes 23 = .ok (.getfield 99, 3) := by decide +kernel
theorem dX10_comes_26 : decode cX10_comes 26 = .ok (.iload_n 1, 1) := by decide +kernel
theorem dX10_comes_27 : decode cX10_comes 27 = .ok (.iaload, 1) := by decide +kernel
theorem dX10_comes_28 : decode cX10_comes 28 = .ok (.istore 5, 2) := by decide +kernel
theorem dX10_comes_30 : decode cX10_comes 30 = .ok (.aload_n 0, 1) := by decide +kernel
theorem dX10_comes_31 : decode cX10_comes 31 = .ok (.getfield 33, 3) := by decide +kernel
theorem dX10_comes_34 : decode cX10_comes 34 = .ok (.iload_n 2, 1) := by decide +kernel
theorem dX10_comes_35 : decode cX10_comes 35 = .ok (.dup2, 1) := by decide +kernel
theorem dX10_comes_36 : decode cX10_comes 36 = .ok (.iaload, 1) := by decide +kernel
theorem dX10_comes_37 : decode cX10_comes 37 = .ok (.iconst 1, 1) := by decide +kernel
theorem dX10_comes_38 : decode cX10_comes 38 = .ok (.iadd, 1) := by decide +kernel
theorem dX10_comes_39 : decode cX10_comes 39 = .ok (.iastore, 1) := by decide +kernel
theorem dX10_comes_40 : decode cX10_comes 40 = .ok (.aload_n 0, 1) := by decide +kernel
theorem dX10_comes_41 : decode cX10_comes 41 = .ok (.getfield 81, 3) := by decide +kernel
theorem dX10_comes_44 : decode cX10_comes 44 = .ok (.iload_n 2, 1) := by decide +kernel
theorem dX10_comes_45 : decode cX10_comes 45 = .ok (.iload_n 3, 1) := by decide +kernel
theorem dX10_comes_46 : decode cX10_comes 46 = .ok (.invokestatic 151, 3) := by decide +kernel
theorem dX10_comes_49 : decode cX10_comes 49 = .ok (.dup2, 1) := by decide +kernel
theorem dX10_comes_50 : decode cX10_comes 50 = .ok (.iaload, 1) := by decide +kernel
theorem dX10_comes_51 : decode cX10_comes 51 = .ok (.iconst 1, 1) := by decide +kernel
theorem dX10_comes_52 : decode cX10_comes 52 = .ok (.iadd, 1) := by decide +kernel
theorem dX10_comes_53 : decode cX10_comes 53 = .ok (.iastore, 1) := by decide +kernel
theorem dX10_comes_54 : decode cX10_comes 54 = .ok (.aload_n 0, 1) := by decide +kernel
theorem dX10_comes_55 : decode cX10_comes 55 = .ok (.iload_n 2, 1) := by decide +kernel
theorem dX10_comes_56 : decode cX10_comes 56 = .ok (.iload_n 3, 1) := by decide +kernel
theorem dX10_comes_57 : decode cX10_comes 57 = .ok (.iload 4, 2) := by decide +kernel
theorem dX10_comes_59 : decode cX10_comes 59 = .ok (.iload 5, 2) := by decide +kernel
theorem dX10_comes_61 : decode cX10_comes 61 = .ok (.invokevirtual 186, 3) := by decide +kernel
theorem dX10_comes_64 : decode cX10_comes 64 = .ok (.ifCond .eq 24, 3) := by decide +kernel
theorem dX10_comes_67 : decode cX10_comes 67 = .ok (.aload_n 0, 1) := by decide +kernel
theorem dX10_comes_68 : decode cX10_comes 68 = .ok (.getfield 39, 3) := by decide +kernel
theorem dX10_comes_71 : decode cX10_comes 71 = .ok (.iload_n 2, 1) := by decide +kernel
theorem dX10_comes_72 : decode cX10_comes 72 = .ok (.dup2, 1) := by decide +kernel
theorem dX10_comes_73 : decode cX10_comes 73 = .ok (.iaload, 1) := by decide +kernel
theorem dX10_comes_74 : decode cX10_comes 74 = .ok (.iconst 1, 1) := by decide +kernel
theorem dX10_comes_75 : decode cX10_comes 75 = .ok (.iadd, 1) := by decide +kernel
theorem dX10_comes_76 : decode cX10_comes 76 = .ok (.iastore, 1) := by decide +kernel
theorem dX10_comes_77 : decode cX10_comes 77 = .ok (.aload_n 0, 1) := by decide +kernel
theorem dX10_comes_78 : decode cX10_comes 78 = .ok (.dup, 1) := by decide +kernel
theorem dX10_comes_79 : decode cX10_comes 79 = .ok (.getfield 190, 3) := by decide +kernel
theorem dX10_comes_82 : decode cX10_comes 82 = .ok (.iconst 1, 1) := by decide +kernel
theorem dX10_comes_83 : decode cX10_comes 83 = .ok (.iadd, 1) := by decide +kernel
theorem dX10_comes_84 : decode cX10_comes 84 = .ok (.putfield 190, 3) := by decide +kernel
theorem dX10_comes_87 : decode cX10_comes 87 = .ok (.return_, 1) := by decide +kernel
theorem dX10_comes_88 : decode cX10_comes 88 = .ok (.aload_n 0, 1) := by decide +kernel
theorem dX10_comes_89 : decode cX10_comes 89 = .ok (.getfield 54, 3) := by decide +kernel
theorem dX10_comes_92 : decode cX10_comes 92 = .ok (.iload_n 2, 1) := by decide +kernel
theorem dX10_comes_93 : decode cX10_comes 93 = .ok (.iload 4, 2) := by decide +kernel
theorem dX10_comes_95 : decode cX10_comes 95 = .ok (.iload 5, 2) := by decide +kernel
theorem dX10_comes_97 : decode cX10_comes 97 = .ok (.invokestatic 163, 3) := by decide +kernel
theorem dX10_comes_100 : decode cX10_comes 100 = .ok (.iconst 1, 1) := by decide +kernel
theorem dX10_comes_101 : decode cX10_comes 101 = .ok (.bastore, 1) := by decide +kernel
theorem dX10_comes_102 : decode cX10_comes 102 = .ok (.aload_n 0, 1) := by decide +kernel
theorem dX10_comes_103 : decode cX10_comes 103 = .ok (.getfield 57, 3) := by decide +kernel
theorem dX10_comes_106 : decode cX10_comes 106 = .ok (.iload_n 2, 1) := by decide +kernel
theorem dX10_comes_107 : decode cX10_comes 107 = .ok (.iload 4, 2) := by decide +kernel
theorem dX10_comes_109 : decode cX10_comes 109 = .ok (.iload 5, 2) := by decide +kernel
theorem dX10_comes_111 : decode cX10_comes 111 = .ok (.invokestatic 163, 3) := by decide +kernel
theorem dX10_comes_114 : decode cX10_comes 114 = .ok (.aload_n 0, 1) := by decide +kernel
theorem dX10_comes_115 : decode cX10_comes 115 = .ok (.getfield 102, 3) := by decide +kernel
theorem dX10_comes_118 : decode cX10_comes 118 = .ok (.iload_n 1, 1) := by decide +kernel
theorem dX10_comes_119 : decode cX10_comes 119 = .ok (.iaload, 1) := by decide +kernel
theorem dX10_comes_120 : decode cX10_comes 120 = .ok (.iastore, 1) := by decide +kernel
theorem dX10_comes_121 : decode cX10_comes 121 = .ok (.aload_n 0, 1) := by decide +kernel
theorem dX10_comes_122 : decode cX10_comes 122 = .ok (.getfield 60, 3) := by decide +kernel
theorem dX10_comes_125 : decode cX10_comes 125 = .ok (.iload_n 2, 1) := by decide +kernel
theorem dX10_comes_126 : decode cX10_comes 126 = .ok (.iload 4, 2) := by decide +kernel
theorem dX10_comes_128 : decode cX10_comes 128 = .ok (.iload 5, 2) := by decide +kernel
theorem dX10_comes_130 : decode cX10_comes 130 = .ok (.invokestatic 163, 3) := by decide +kernel
theorem dX10_comes_133 : decode cX10_comes 133 = .ok (.iload_n 3, 1) := by decide +kernel
theorem dX10_comes_134 : decode cX10_comes 134 = .ok (.iastore, 1) := by decide +kernel
theorem dX10_comes_135 : decode cX10_comes 135 = .ok (.aload_n 0, 1) := by decide +kernel
theorem dX10_comes_136 : decode cX10_comes 136 = .ok (.iload_n 2, 1) := by decide +kernel
theorem dX10_comes_137 : decode cX10_comes 137 = .ok (.iload 4, 2) := by decide +kernel
theorem dX10_comes_139 : decode cX10_comes 139 = .ok (.invokevirtual 193, 3) := by decide +kernel
theorem dX10_comes_142 : decode cX10_comes 142 = .ok (.aload_n 0, 1) := by decide +kernel
theorem dX10_comes_143 : decode cX10_comes 143 = .ok (.getfield 13, 3) := by decide +kernel
theorem dX10_comes_146 : decode cX10_comes 146 = .ok (.if_icmp .ge 4, 3) := by decide +kernel
theorem dX10_comes_149 : decode cX10_comes 149 = .ok (.return_, 1) := by decide +kernel
theorem dX10_comes_150 : decode cX10_comes 150 = .ok (.iconst 0, 1) := by decide +kernel
theorem dX10_comes_151 : decode cX10_comes 151 = .ok (.istore 6, 2) := by decide +kernel
theorem dX10_comes_153 : decode cX10_comes 153 = .ok (.iconst 0, 1) := by decide +kernel
theorem dX10_comes_154 : decode cX10_comes 154 = .ok (.istore 7, 2) := by decide +kernel
theorem dX10_comes_156 : decode cX10_comes 156 = .ok (.iload 7, 2) := by decide +kernel
theorem dX10_comes_158 : decode cX10_comes 158 = .ok (.aload_n 0, 1) := by decide +kernel
theorem dX10_comes_159 : decode cX10_comes 159 = .ok (.getfield 13, 3) := by decide +kernel
theorem dX10_comes_162 : decode cX10_comes 162 = .ok (.if_icmp .ge 30, 3) := by decide +kernel
theorem dX10_comes_165 : decode cX10_comes 165 = .ok (.iload 6, 2) := by decide +kernel
theorem dX10_comes_167 : decode cX10_comes 167 = .ok (.ldc 127, 2) := by decide +kernel
theorem dX10_comes_169 : decode cX10_comes 169 = .ok (.imul, 1) := by decide +kernel
theorem dX10_comes_170 : decode cX10_comes 170 = .ok (.aload_n 0, 1) := by decide +kernel
theorem dX10_comes_171 : decode cX10_comes 171 = .ok (.getfield 57, 3) := by decide +kernel
theorem dX10_comes_174 : decode cX10_comes 174 = .ok (.iload_n 2, 1) := by decide +kernel
theorem dX10_comes_175 : decode cX10_comes 175 = .ok (.iload 4, 2) := by decide +kernel
theorem dX10_comes_177 : decode cX10_comes 177 = .ok (.iload 7, 2) := by decide +kernel
theorem dX10_comes_179 : decode cX10_comes 179 = .ok (.invokestatic 163, 3) := by decide +kernel
theorem dX10_comes_182 : decode cX10_comes 182 = .ok (.iaload, 1) := by decide +kernel
theorem dX10_comes_183 : decode cX10_comes 183 = .ok (.iadd, 1) := by decide +kernel
theorem dX10_comes_184 : decode cX10_comes 184 = .ok (.istore 6, 2) := by decide +kernel
theorem dX10_comes_186 : decode cX10_comes 186 = .ok (.iinc 7 1, 3) := by decide +kernel
theorem dX10_comes_189 : decode cX10_comes 189 = .ok (.goto (-33), 3) := by decide +kernel
theorem dX10_comes_192 : decode cX10_comes 192 = .ok (.iload 6, 2) := by decide +kernel
theorem dX10_comes_194 : decode cX10_comes 194 = .ok (.aload_n 0, 1) := by decide +kernel
theorem dX10_comes_195 : decode cX10_comes 195 = .ok (.iload 4, 2) := by decide +kernel
theorem dX10_comes_197 : decode cX10_comes 197 = .ok (.invokevirtual 143, 3) := by decide +kernel
theorem dX10_comes_200 : decode cX10_comes 200 = .ok (.if_icmp .eq 11, 3) := by decide +kernel
theorem dX10_comes_203 : decode cX10_comes 203 = .ok (.aload_n 0, 1) := by decide +kernel
theorem dX10_comes_204 : decode cX10_comes 204 = .ok (.iload_n 2, 1) := by decide +kernel
theorem dX10_comes_205 : decode cX10_comes 205 = .ok (.iload 4, 2) := by decide +kernel
theorem dX10_comes_207 : decode cX10_comes 207 = .ok (.invokevirtual 196, 3) := by decide +kernel
theorem dX10_comes_210 : decode cX10_comes 210 = .ok (.return_, 1) := by decide +kernel
theorem dX10_comes_211 : decode cX10_comes 211 = .ok (.aload_n 0, 1) := by decide +kernel
theorem dX10_comes_212 : decode cX10_comes 212 = .ok (.getfield 48, 3) := by decide +kernel
theorem dX10_comes_215 : decode cX10_comes 215 = .ok (.bipush 24, 2) := by decide +kernel
theorem dX10_comes_217 : decode cX10_comes 217 = .ok (.iload_n 2, 1) := by decide +kernel
theorem dX10_comes_218 : decode cX10_comes 218 = .ok (.imul, 1) := by decide +kernel
theorem dX10_comes_219 : decode cX10_comes 219 = .ok (.iload 4, 2) := by decide +kernel
theorem dX10_comes_221 : decode cX10_comes 221 = .ok (.iadd, 1) := by decide +kernel
theorem dX10_comes_222 : decode cX10_comes 222 = .ok (.iconst 1, 1) := by decide +kernel
theorem dX10_comes_223 : decode cX10_comes 223 = .ok (.bastore, 1) := by decide +kernel
theorem dX10_comes_224 : decode cX10_comes 224 = .ok (.aload_n 0, 1) := by decide +kernel
theorem dX10_comes_225 : decode cX10_comes 225 = .ok (.iload_n 2, 1) := by decide +kernel
theorem dX10_comes_226 : decode cX10_comes 226 = .ok (.invokevirtual 199, 3) := by decide +kernel
theorem dX10_comes_229 : decode cX10_comes 229 = .ok (.ifCond .eq 13, 3) := by decide +kernel
theorem dX10_comes_232 : decode cX10_comes 232 = .ok (.aload_n 0, 1) := by decide +kernel
theorem dX10_comes_233 : decode cX10_comes 233 = .ok (.getfield 45, 3) := by decide +kernel
theorem dX10_comes_236 : decode cX10_comes 236 = .ok (.iload_n 2, 1) := by decide +kernel
theorem dX10_comes_237 : decode cX10_comes 237 = .ok (.aload_n 0, 1) := by decide +kernel
theorem dX10_comes_238 : decode cX10_comes 238 = .ok (.getfield 202, 3) := by decide +kernel
theorem dX10_comes_241 : decode cX10_comes 241 = .ok (.iastore, 1) := by decide +kernel
theorem dX10_comes_242 : decode cX10_comes 242 = .ok (.return_, 1) := by decide +kernel
set_option maxRecDepth 20000 in
theorem ggX10_allCome_X10_comes : GoodIn wsX10_allCome wsX10_comes := goodIn_r _ [9, 10, 11, 12, 13, 14, 15, 16, 17, 18, 19, 20, 21, 22, 23, 24, 25, 3, 26, 27, 8, 28, 29, 30, 31, 32, 33, 34, 35, 36, 37, 38, 39, 40, 41, 42, 43, 44, 45, 46, 47, 48, 49, 50, 51, 52, 53, 54, 55, 56, 57, 58, 59, 60, 61, 62, 63, 64, 65, 66, 67, 68, 69, 70, 71, 72, 77, 78, 79, 80, 81, 82, 83, 84, 85, 86, 87, 88, 89, 90, 91, 92, 93, 94, 95, 96, 97, 98, 99, 100, 101, 102, 103, 104, 105, 106, 107, 108, 109, 110, 111, 112, 113, 114, 115, 116, 117, 118, 119, 120, 121] (by decide +kernel) (by decide +kernel)
set_option maxRecDepth 20000 in
theorem gX10_allCome_X10_comes : GoodIn wsX10_allCome (wsV RX10 205 RX10 yX10_comes wsX10_comes) := goodIn_app (goodIn_of _ (by decide +kernel)) ggX10_allCome_X10_comes
set_option maxRecDepth 20000 in
theorem ggX10_allCome_X10_keep : GoodIn wsX10_allCome wsX10_keep := goodIn_r _ [76, 10, 11, 12, 13, 20, 2, 4, 77, 78, 79, 80, 81, 82, 83, 84, 85, 86, 87, 88, 89, 90, 91, 92, 93, 94, 95, 96, 97, 98, 99, 100, 101, 102, 103, 104, 105, 106, 107, 108, 109, 110, 111, 112, 113, 114, 115, 116, 117, 118, 119, 120, 121] (by decide +kernel) (by decide +kernel)
set_option maxRecDepth 20000 in
theorem gX10_allCome_X10_keep : GoodIn wsX10_allCome (wsV RX10 173 RX10 yX10_keep wsX10_keep) := goodIn_app (goodIn_of _ (by decide +kernel)) ggX10_allCome_X10_keep
theorem dX10_allCome_0 : decode cX10_allCome 0 = .ok (.iconst 0, 1) := by decide +kernel
theorem dX10_allCome_1 : decode cX10_allCome 1 = .ok (.istore_n 2, 1) := by decide +kernel
theorem dX10_allCome_2 : decode cX10_allCome 2 = .ok (.iconst 0, 1) := by decide +kernel
theorem dX10_allCome_3 : decode cX10_allCome 3 = .ok (.istore_n 3, 1) := by decide +kernel
theorem dX10_allCome_4 : decode cX10_allCome 4 = .ok (.iload_n 3, 1) := by decide +kernel
theorem dX10_allCome_5 : decode cX10_allCome 5 = .ok (.aload_n 0, 1) := by decide +kernel
theorem dX10_allCome_6 : decode cX10_allCome 6 = .ok (.getfield 170, 3) := by decide +kernel
theorem dX10_allCome_9 : decode cX10_allCome 9 = .ok (.if_icmp .ge 49, 3) := by decide +kernel
theorem dX10_allCome_12 : decode cX10_allCome 12 = .ok (.aload_n 0, 1) := by decide +kernel
theorem dX10_allCome_13 : decode cX10_allCome 13 = .ok (.getfield 105, 3) := by decide +kernel
theorem dX10_allCome_16 : decode cX10_allCome 16 = .ok (.iload_n 3, 1) := by decide +kernel
theorem dX10_allCome_17 : decode cX10_allCome 17 = .ok (.iaload, 1) := by decide +kernel
theorem dX10_allCome_18 : decode cX10_allCome 18 = .ok (.aload_n 0, 1) := by decide +kernel
theorem dX10_allCome_19 : decode cX10_allCome 19 = .ok (.getfield 202, 3) := by decide +kernel
theorem dX10_allCome_22 : decode cX10_allCome 22 = .ok (.if_icmp .ne 21, 3) := by decide +kernel
theorem dX10_allCome_25 : decode cX10_allCome 25 = .ok (.aload_n 0, 1) := by decide +kernel
theorem dX10_allCome_26 : decode cX10_allCome 26 = .ok (.getfield 108, 3) := by decide +kernel
theorem dX10_allCome_29 : decode cX10_allCome 29 = .ok (.iload_n 3, 1) := by decide +kernel
theorem dX10_allCome_30 : decode cX10_allCome 30 = .ok (.baload, 1) := by decide +kernel
theorem dX10_allCome_31 : decode cX10_allCome 31 = .ok (.iload_n 1, 1) := by decide +kernel
theorem dX10_allCome_32 : decode cX10_allCome 32 = .ok (.if_icmp .ne 11, 3) := by decide +kernel
theorem dX10_allCome_35 : decode cX10_allCome 35 = .ok (.aload_n 0, 1) := by decide +kernel
theorem dX10_allCome_36 : decode cX10_allCome 36 = .ok (.iload_n 3, 1) := by decide +kernel
theorem dX10_allCome_37 : decode cX10_allCome 37 = .ok (.invokevirtual 205, 3) := by decide +kernel
theorem dX10_allCome_40 : decode cX10_allCome 40 = .ok (.goto 12, 3) := by decide +kernel
theorem dX10_allCome_43 : decode cX10_allCome 43 = .ok (.aload_n 0, 1) := by decide +kernel
theorem dX10_allCome_44 : decode cX10_allCome 44 = .ok (.iload_n 2, 1) := by decide +kernel
theorem dX10_allCome_45 : decode cX10_allCome 45 = .ok (.iload_n 3, 1) := by decide +kernel
theorem dX10_allCome_46 : decode cX10_allCome 46 = .ok (.invokevirtual 173, 3) := by decide +kernel
theorem dX10_allCome_49 : decode cX10_allCome 49 = .ok (.iinc 2 1, 3) := by decide +kernel
theorem dX10_allCome_52 : decode cX10_allCome 52 = .ok (.iinc 3 1, 3) := by decide +kernel
theorem dX10_allCome_55 : decode cX10_allCome 55 = .ok (.goto (-51), 3) := by decide +kernel
theorem dX10_allCome_58 : decode cX10_allCome 58 = .ok (.aload_n 0, 1) := by decide +kernel
theorem dX10_allCome_59 : decode cX10_allCome 59 = .ok (.iload_n 2, 1) := by decide +kernel
theorem dX10_allCome_60 : decode cX10_allCome 60 = .ok (.putfield 170, 3) := by decide +kernel
theorem dX10_allCome_63 : decode cX10_allCome 63 = .ok (.return_, 1) := by decide +kernel
theorem dX10_coming_0 : decode cX10_coming 0 = .ok (.iconst 0, 1) := by decide +kernel
theorem dX10_coming_1 : decode cX10_coming 1 = .ok (.istore 4, 2) := by decide +kernel
theorem dX10_coming_3 : decode cX10_coming 3 = .ok (.iconst 0, 1) := by decide +kernel
theorem dX10_coming_4 : decode cX10_coming 4 = .ok (.istore 5, 2) := by decide +kernel
theorem dX10_coming_6 : decode cX10_coming 6 = .ok (.iload 5, 2) := by decide +kernel
theorem dX10_coming_8 : decode cX10_coming 8 = .ok (.aload_n 0, 1) := by decide +kernel
theorem dX10_coming_9 : decode cX10_coming 9 = .ok (.getfield 170, 3) := by decide +kernel
theorem dX10_coming_12 : decode cX10_coming 12 = .ok (.if_icmp .ge 52, 3) := by decide +kernel
theorem dX10_coming_15 : decode cX10_coming 15 = .ok (.iload 4, 2) := by decide +kernel
theorem dX10_coming_17 : decode cX10_coming 17 = .ok (.aload_n 0, 1) := by decide +kernel
theorem dX10_coming_18 : decode cX10_coming 18 = .ok (.getfield 90, 3) := by decide +kernel
theorem dX10_coming_21 : decode cX10_coming 21 = .ok (.iload 5, 2) := by decide +kernel
theorem dX10_coming_23 : decode cX10_coming 23 = .ok (.iaload, 1) := by decide +kernel
theorem dX10_coming_24 : decode cX10_coming 24 = .ok (.iload_n 1, 1) := by decide +kernel
theorem dX10_coming_25 : decode cX10_coming 25 = .ok (.if_icmp .ne 29, 3) := by decide +kernel
theorem dX10_coming_28 : decode cX10_coming 28 = .ok (.aload_n 0, 1) := by decide +kernel
theorem dX10_coming_29 : decode cX10_coming 29 = .ok (.getfield 96, 3) := by decide +kernel
theorem dX10_coming_32 : decode cX10_coming 32 = .ok (.iload 5, 2) := by decide +kernel
theorem dX10_coming_34 : decode cX10_coming 34 = .ok (.iaload, 1) := by decide +kernel
theorem dX10_coming_35 : decode cX10_coming 35 = .ok (.iload_n 2, 1) := by decide +kernel
theorem dX10_coming_36 : decode cX10_coming 36 = .ok (.if_icmp .ne 18, 3) := by decide +kernel
theorem dX10_coming_39 : decode cX10_coming 39 = .ok (.aload_n 0, 1) := by decide +kernel
theorem dX10_coming_40 : decode cX10_coming 40 = .ok (.getfield 99, 3) := by decide +kernel
theorem dX10_coming_43 : decode cX10_coming 43 = .ok (.iload 5, 2) := by decide +kernel
theorem dX10_coming_45 : decode cX10_coming 45 = .ok (.iaload, 1) := by decide +kernel
theorem dX10_coming_46 : decode cX10_coming 46 = .ok (.iload_n 3, 1) := by decide +kernel
theorem dX10_coming_47 : decode cX10_coming 47 = .ok (.if_icmp .ne 7, 3) := by decide +kernel
theorem dX10_coming_50 : decode cX10_coming 50 = .ok (.iconst 1, 1) := by decide +kernel
theorem dX10_coming_51 : decode cX10_coming 51 = .ok (.goto 4, 3) := by decide +kernel
theorem dX10_coming_54 : decode cX10_coming 54 = .ok (.iconst 0, 1) := by decide +kernel
theorem dX10_coming_55 : decode cX10_coming 55 = .ok (.iadd, 1) := by decide +kernel
theorem dX10_coming_56 : decode cX10_coming 56 = .ok (.istore 4, 2) := by decide +kernel
theorem dX10_coming_58 : decode cX10_coming 58 = .ok (.iinc 5 1, 3) := by decide +kernel
theorem dX10_coming_61 : decode cX10_coming 61 = .ok (.goto (-55), 3) := by decide +kernel
theorem dX10_coming_64 : decode cX10_coming 64 = .ok (.iload 4, 2) := by decide +kernel
theorem dX10_coming_66 : decode cX10_coming 66 = .ok (.ireturn, 1) := by decide +kernel
set_option maxRecDepth 20000 in
theorem ggX10_late_X10_isDone : GoodIn wsX10_late wsX10_isDone := goodIn_r _ [7, 8, 9, 10, 11, 6, 12, 13, 17, 18, 19, 20, 21, 22, 23, 24, 25, 26, 27, 28, 29, 30, 31, 32, 33, 34, 35, 36, 37, 38, 39, 40, 41, 42, 43, 44, 45, 46, 47, 48, 49, 50, 51, 52, 53, 54, 55, 56, 57, 58, 59, 60, 61] (by decide +kernel) (by decide +kernel)
set_option maxRecDepth 20000 in
theorem gX10_late_X10_isDone : GoodIn wsX10_late (wsV RX10 199 RX10 yX10_isDone wsX10_isDone) := goodIn_app (goodIn_of _ (by decide +kernel)) ggX10_late_X10_isDone
set_option maxRecDepth 20000 in
theorem ggX10_late_X10_two : GoodIn wsX10_late wsX10_two := goodIn_r _ [16] (by decide +kernel) (by decide +kernel)
set_option maxRecDepth 20000 in
theorem gX10_late_X10_two : GoodIn wsX10_late (va_wsS RX10 151 yX10_two wsX10_two) := goodIn_app (goodIn_of _ (by decide +kernel)) ggX10_late_X10_two
theorem dX10_late_0 : decode cX10_late 0 = .ok (.aload_n 0, 1) := by decide +kernel
theorem dX10_late_1 : decode cX10_late 1 = .ok (.iload_n 1, 1) := by decide +kernel
theorem dX10_late_2 : decode cX10_late 2 = .ok (.invokevirtual 199, 3) := by decide +kernel
theorem dX10_late_5 : decode cX10_late 5 = .ok (.ifCond .eq 16, 3) := by decide +kernel
theorem dX10_late_8 : decode cX10_late 8 = .ok (.aload_n 0, 1) := by decide +kernel
theorem dX10_late_9 : decode cX10_late 9 = .ok (.getfield 78, 3) := by decide +kernel
theorem dX10_late_12 : decode cX10_late 12 = .ok (.iload_n 1, 1) := by decide +kernel
theorem dX10_late_13 : decode cX10_late 13 = .ok (.iload_n 2, 1) := by decide +kernel
theorem dX10_late_14 : decode cX10_late 14 = .ok (.invokestatic 151, 3) := by decide +kernel
theorem dX10_late_17 : decode cX10_late 17 = .ok (.iaload, 1) := by decide +kernel
theorem dX10_late_18 : decode cX10_late 18 = .ok (.goto 13, 3) := by decide +kernel
theorem dX10_late_21 : decode cX10_late 21 = .ok (.aload_n 0, 1) := by decide +kernel
theorem dX10_late_22 : decode cX10_late 22 = .ok (.getfield 81, 3) := by decide +kernel
theorem dX10_late_25 : decode cX10_late 25 = .ok (.iload_n 1, 1) := by decide +kernel
theorem dX10_late_26 : decode cX10_late 26 = .ok (.iload_n 2, 1) := by decide +kernel
theorem dX10_late_27 : decode cX10_late 27 = .ok (.invokestatic 151, 3) := by decide +kernel
theorem dX10_late_30 : decode cX10_late 30 = .ok (.iaload, 1) := by decide +kernel
theorem dX10_late_31 : decode cX10_late 31 = .ok (.ireturn, 1) := by decide +kernel
set_option maxRecDepth 20000 in
theorem ggX10_opens_X10_two : GoodIn wsX10_opens wsX10_two := goodIn_r _ [12] (by decide +kernel) (by decide +kernel)
set_option maxRecDepth 20000 in
theorem gX10_opens_X10_two : GoodIn wsX10_opens (va_wsS RX10 151 yX10_two wsX10_two) := goodIn_app (goodIn_of _ (by decide +kernel)) ggX10_opens_X10_two
set_option maxRecDepth 20000 in
theorem ggX10_opens_X10_wants : GoodIn wsX10_opens wsX10_wants := goodIn_r _ [16, 17, 18, 19, 20, 21, 11, 22, 23, 24, 25, 9, 10, 12, 26, 27, 28, 29, 4, 42, 43, 44, 45, 46, 47, 48, 49, 50, 51, 52, 53, 54, 55, 56, 57, 58, 59, 60, 61, 62, 63, 64, 65, 66, 67, 68, 69, 70, 71, 72, 73, 74, 75, 76, 77, 78, 79, 80, 81, 82, 83, 84, 85, 86] (by decide +kernel) (by decide +kernel)
set_option maxRecDepth 20000 in
theorem gX10_opens_X10_wants : GoodIn wsX10_opens (wsV RX10 209 RX10 yX10_wants wsX10_wants) := goodIn_app (goodIn_of _ (by decide +kernel)) ggX10_opens_X10_wants
set_option maxRecDepth 20000 in
theorem ggX10_opens_X10_late : GoodIn wsX10_opens wsX10_late := goodIn_r _ [33, 7, 8, 34, 35, 36, 11, 37, 17, 38, 39, 40, 41, 18, 9, 10, 12, 42, 43, 44, 45, 46, 47, 48, 49, 50, 51, 52, 53, 54, 55, 56, 57, 58, 59, 60, 61, 62, 63, 64, 65, 66, 67, 68, 69, 70, 71, 72, 73, 74, 75, 76, 77, 78, 79, 80, 81, 82, 83, 84, 85, 86] (by decide +kernel) (by decide +kernel)
set_option maxRecDepth 20000 in
theorem gX10_opens_X10_late : GoodIn wsX10_opens (wsV RX10 212 RX10 yX10_late wsX10_late) := goodIn_app (goodIn_of _ (by decide +kernel)) ggX10_opens_X10_late
theorem dX10_opens_0 : decode cX10_opens 0 = .ok (.aload_n 0, 1) := by decide +kernel
theorem dX10_opens_1 : decode cX10_opens 1 = .ok (.getfield 111, 3) := by decide +kernel
theorem dX10_opens_4 : decode cX10_opens 4 = .ok (.astore_n 2, 1) := by decide +kernel
theorem dX10_opens_5 : decode cX10_opens 5 = .ok (.iconst 3, 1) := by decide +kernel
theorem dX10_opens_6 : decode cX10_opens 6 = .ok (.istore_n 3, 1) := by decide +kernel
theorem dX10_opens_7 : decode cX10_opens 7 = .ok (.iconst 0, 1) := by decide +kernel
theorem dX10_opens_8 : decode cX10_opens 8 = .ok (.istore 4, 2) := by decide +kernel
theorem dX10_opens_10 : decode cX10_opens 10 = .ok (.iload 4, 2) := by decide +kernel
theorem dX10_opens_12 : decode cX10_opens 12 = .ok (.aload_n 0, 1) := by decide +kernel
theorem dX10_opens_13 : decode cX10_opens 13 = .ok (.getfield 136, 3) := by decide +kernel
theorem dX10_opens_16 : decode cX10_opens 16 = .ok (.if_icmp .ge 66, 3) := by decide +kernel
theorem dX10_opens_19 : decode cX10_opens 19 = .ok (.aload_n 0, 1) := by decide +kernel
theorem dX10_opens_20 : decode cX10_opens 20 = .ok (.getfield 66, 3) := by decide +kernel
theorem dX10_opens_23 : decode cX10_opens 23 = .ok (.iload_n 1, 1) := by decide +kernel
theorem dX10_opens_24 : decode cX10_opens 24 = .ok (.iload 4, 2) := by decide +kernel
theorem dX10_opens_26 : decode cX10_opens 26 = .ok (.invokestatic 151, 3) := by decide +kernel
theorem dX10_opens_29 : decode cX10_opens 29 = .ok (.iconst 0, 1) := by decide +kernel
theorem dX10_opens_30 : decode cX10_opens 30 = .ok (.bastore, 1) := by decide +kernel
theorem dX10_opens_31 : decode cX10_opens 31 = .ok (.aload_n 2, 1) := by decide +kernel
theorem dX10_opens_32 : decode cX10_opens 32 = .ok (.iload 4, 2) := by decide +kernel
theorem dX10_opens_34 : decode cX10_opens 34 = .ok (.iload_n 1, 1) := by decide +kernel
theorem dX10_opens_35 : decode cX10_opens 35 = .ok (.iload 4, 2) := by decide +kernel
theorem dX10_opens_37 : decode cX10_opens 37 = .ok (.if_icmp .eq 37, 3) := by decide +kernel
theorem dX10_opens_40 : decode cX10_opens 40 = .ok (.aload_n 0, 1) := by decide +kernel
theorem dX10_opens_41 : decode cX10_opens 41 = .ok (.iload 4, 2) := by decide +kernel
theorem dX10_opens_43 : decode cX10_opens 43 = .ok (.iload_n 1, 1) := by decide +kernel
theorem dX10_opens_44 : decode cX10_opens 44 = .ok (.invokevirtual 209, 3) := by decide +kernel
theorem dX10_opens_47 : decode cX10_opens 47 = .ok (.ifCond .eq 27, 3) := by decide +kernel
theorem dX10_opens_50 : decode cX10_opens 50 = .ok (.aload_n 0, 1) := by decide +kernel
theorem dX10_opens_51 : decode cX10_opens 51 = .ok (.getfield 16, 3) := by decide +kernel
theorem dX10_opens_54 : decode cX10_opens 54 = .ok (.iload_n 1, 1) := by decide +kernel
theorem dX10_opens_55 : decode cX10_opens 55 = .ok (.iaload, 1) := by decide +kernel
theorem dX10_opens_56 : decode cX10_opens 56 = .ok (.iconst 2, 1) := by decide +kernel
theorem dX10_opens_57 : decode cX10_opens 57 = .ok (.if_icmp .eq 17, 3) := by decide +kernel
theorem dX10_opens_60 : decode cX10_opens 60 = .ok (.aload_n 0, 1) := by decide +kernel
theorem dX10_opens_61 : decode cX10_opens 61 = .ok (.getfield 16, 3) := by decide +kernel
theorem dX10_opens_64 : decode cX10_opens 64 = .ok (.iload_n 1, 1) := by decide +kernel
theorem dX10_opens_65 : decode cX10_opens 65 = .ok (.iaload, 1) := by decide +kernel
theorem dX10_opens_66 : decode cX10_opens 66 = .ok (.iconst 5, 1) := by decide +kernel
theorem dX10_opens_67 : decode cX10_opens 67 = .ok (.if_icmp .eq 7, 3) := by decide +kernel
theorem dX10_opens_70 : decode cX10_opens 70 = .ok (.iconst 1, 1) := by decide +kernel
theorem dX10_opens_71 : decode cX10_opens 71 = .ok (.goto 4, 3) := by decide +kernel
theorem dX10_opens_74 : decode cX10_opens 74 = .ok (.iconst 0, 1) := by decide +kernel
theorem dX10_opens_75 : decode cX10_opens 75 = .ok (.bastore, 1) := by decide +kernel
theorem dX10_opens_76 : decode cX10_opens 76 = .ok (.iinc 4 1, 3) := by decide +kernel
theorem dX10_opens_79 : decode cX10_opens 79 = .ok (.goto (-69), 3) := by decide +kernel
theorem dX10_opens_82 : decode cX10_opens 82 = .ok (.iload_n 3, 1) := by decide +kernel
theorem dX10_opens_83 : decode cX10_opens 83 = .ok (.ifCond .le 90, 3) := by decide +kernel
theorem dX10_opens_86 : decode cX10_opens 86 = .ok (.iconst (-1), 1) := by decide +kernel
theorem dX10_opens_87 : decode cX10_opens 87 = .ok (.istore 4, 2) := by decide +kernel
theorem dX10_opens_89 : decode cX10_opens 89 = .ok (.iconst 0, 1) := by decide +kernel
theorem dX10_opens_90 : decode cX10_opens 90 = .ok (.istore 5, 2) := by decide +kernel
theorem dX10_opens_92 : decode cX10_opens 92 = .ok (.iload 5, 2) := by decide +kernel
theorem dX10_opens_94 : decode cX10_opens 94 = .ok (.aload_n 0, 1) := by decide +kernel
theorem dX10_opens_95 : decode cX10_opens 95 = .ok (.getfield 136, 3) := by decide +kernel
theorem dX10_opens_98 : decode cX10_opens 98 = .ok (.if_icmp .ge 43, 3) := by decide +kernel
theorem dX10_opens_101 : decode cX10_opens 101 = .ok (.aload_n 2, 1) := by decide +kernel
theorem dX10_opens_102 : decode cX10_opens 102 = .ok (.iload 5, 2) := by decide +kernel
theorem dX10_opens_104 : decode cX10_opens 104 = .ok (.baload, 1) := by decide +kernel
theorem dX10_opens_105 : decode cX10_opens 105 = .ok (.ifCond .eq 30, 3) := by decide +kernel
theorem dX10_opens_108 : decode cX10_opens 108 = .ok (.iload 4, 2) := by decide +kernel
theorem dX10_opens_110 : decode cX10_opens 110 = .ok (.iconst (-1), 1) := by decide +kernel
theorem dX10_opens_111 : decode cX10_opens 111 = .ok (.if_icmp .eq 20, 3) := by decide +kernel
theorem dX10_opens_114 : decode cX10_opens 114 = .ok (.aload_n 0, 1) := by decide +kernel
theorem dX10_opens_115 : decode cX10_opens 115 = .ok (.iload_n 1, 1) := by decide +kernel
theorem dX10_opens_116 : decode cX10_opens 116 = .ok (.iload 5, 2) := by decide +kernel
theorem dX10_opens_118 : decode cX10_opens 118 = .ok (.invokevirtual 212, 3) := by decide +kernel
theorem dX10_opens_121 : decode cX10_opens 121 = .ok (.aload_n 0, 1) := by decide +kernel
theorem dX10_opens_122 : decode cX10_opens 122 = .ok (.iload_n 1, 1) := by decide +kernel
theorem dX10_opens_123 : decode cX10_opens 123 = .ok (.iload 4, 2) := by decide +kernel
theorem dX10_opens_125 : decode cX10_opens 125 = .ok (.invokevirtual 212, 3) := by decide +kernel
theorem dX10_opens_128 : decode cX10_opens 128 = .ok (.if_icmp .le 7, 3) := by decide +kernel
theorem dX10_opens_131 : decode cX10_opens 131 = .ok (.iload 5, 2) := by decide +kernel
theorem dX10_opens_133 : decode cX10_opens 133 = .ok (.istore 4, 2) := by decide +kernel
theorem dX10_opens_135 : decode cX10_opens 135 = .ok (.iinc 5 1, 3) := by decide +kernel
theorem dX10_opens_138 : decode cX10_opens 138 = .ok (.goto (-46), 3) := by decide +kernel
theorem dX10_opens_141 : decode cX10_opens 141 = .ok (.iload 4, 2) := by decide +kernel
theorem dX10_opens_143 : decode cX10_opens 143 = .ok (.iconst (-1), 1) := by decide +kernel
theorem dX10_opens_144 : decode cX10_opens 144 = .ok (.if_icmp .ne 6, 3) := by decide +kernel
theorem dX10_opens_147 : decode cX10_opens 147 = .ok (.goto 26, 3) := by decide +kernel
theorem dX10_opens_150 : decode cX10_opens 150 = .ok (.aload_n 0, 1) := by decide +kernel
theorem dX10_opens_151 : decode cX10_opens 151 = .ok (.getfield 66, 3) := by decide +kernel
theorem dX10_opens_154 : decode cX10_opens 154 = .ok (.iload_n 1, 1) := by decide +kernel
theorem dX10_opens_155 : decode cX10_opens 155 = .ok (.iload 4, 2) := by decide +kernel
theorem dX10_opens_157 : decode cX10_opens 157 = .ok (.invokestatic 151, 3) := by decide +kernel
theorem dX10_opens_160 : decode cX10_opens 160 = .ok (.iconst 1, 1) := by decide +kernel
theorem dX10_opens_161 : decode cX10_opens 161 = .ok (.bastore, 1) := by decide +kernel
theorem dX10_opens_162 : decode cX10_opens 162 = .ok (.aload_n 2, 1) := by decide +kernel
theorem dX10_opens_163 : decode cX10_opens 163 = .ok (.iload 4, 2) := by decide +kernel
theorem dX10_opens_165 : decode cX10_opens 165 = .ok (.iconst 0, 1) := by decide +kernel
theorem dX10_opens_166 : decode cX10_opens 166 = .ok (.bastore, 1) := by decide +kernel
theorem dX10_opens_167 : decode cX10_opens 167 = .ok (.iinc 3 (-1), 3) := by decide +kernel
theorem dX10_opens_170 : decode cX10_opens 170 = .ok (.goto (-88), 3) := by decide +kernel
theorem dX10_opens_173 : decode cX10_opens 173 = .ok (.aload_n 0, 1) := by decide +kernel
theorem dX10_opens_174 : decode cX10_opens 174 = .ok (.getfield 84, 3) := by decide +kernel
theorem dX10_opens_177 : decode cX10_opens 177 = .ok (.iload_n 1, 1) := by decide +kernel
theorem dX10_opens_178 : decode cX10_opens 178 = .ok (.iconst (-1), 1) := by decide +kernel
theorem dX10_opens_179 : decode cX10_opens 179 = .ok (.iastore, 1) := by decide +kernel
theorem dX10_opens_180 : decode cX10_opens 180 = .ok (.iconst 0, 1) := by decide +kernel
theorem dX10_opens_181 : decode cX10_opens 181 = .ok (.istore 4, 2) := by decide +kernel
theorem dX10_opens_183 : decode cX10_opens 183 = .ok (.iload 4, 2) := by decide +kernel
theorem dX10_opens_185 : decode cX10_opens 185 = .ok (.aload_n 0, 1) := by decide +kernel
theorem dX10_opens_186 : decode cX10_opens 186 = .ok (.getfield 136, 3) := by decide +kernel
theorem dX10_opens_189 : decode cX10_opens 189 = .ok (.if_icmp .ge 52, 3) := by decide +kernel
theorem dX10_opens_192 : decode cX10_opens 192 = .ok (.aload_n 0, 1) := by decide +kernel
theorem dX10_opens_193 : decode cX10_opens 193 = .ok (.getfield 84, 3) := by decide +kernel
theorem dX10_opens_196 : decode cX10_opens 196 = .ok (.iload_n 1, 1) := by decide +kernel
theorem dX10_opens_197 : decode cX10_opens 197 = .ok (.iaload, 1) := by decide +kernel
theorem dX10_opens_198 : decode cX10_opens 198 = .ok (.iconst (-1), 1) := by decide +kernel
theorem dX10_opens_199 : decode cX10_opens 199 = .ok (.if_icmp .ne 42, 3) := by decide +kernel
theorem dX10_opens_202 : decode cX10_opens 202 = .ok (.aload_n 0, 1) := by decide +kernel
theorem dX10_opens_203 : decode cX10_opens 203 = .ok (.getfield 87, 3) := by decide +kernel
theorem dX10_opens_206 : decode cX10_opens 206 = .ok (.iload_n 1, 1) := by decide +kernel
theorem dX10_opens_207 : decode cX10_opens 207 = .ok (.iaload, 1) := by decide +kernel
theorem dX10_opens_208 : decode cX10_opens 208 = .ok (.iconst 1, 1) := by decide +kernel
theorem dX10_opens_209 : decode cX10_opens 209 = .ok (.iadd, 1) := by decide +kernel
theorem dX10_opens_210 : decode cX10_opens 210 = .ok (.iload 4, 2) := by decide +kernel
theorem dX10_opens_212 : decode cX10_opens 212 = .ok (.iadd, 1) := by decide +kernel
theorem dX10_opens_213 : decode cX10_opens 213 = .ok (.aload_n 0, 1) := by decide +kernel
theorem dX10_opens_214 : decode cX10_opens 214 = .ok (.getfield 136, 3) := by decide +kernel
theorem dX10_opens_217 : decode cX10_opens 217 = .ok (.irem, 1) := by decide +kernel
theorem dX10_opens_218 : decode cX10_opens 218 = .ok (.istore 5, 2) := by decide +kernel
theorem dX10_opens_220 : decode cX10_opens 220 = .ok (.aload_n 2, 1) := by decide +kernel
theorem dX10_opens_221 : decode cX10_opens 221 = .ok (.iload 5, 2) := by decide +kernel
theorem dX10_opens_223 : decode cX10_opens 223 = .ok (.baload, 1) := by decide +kernel
theorem dX10_opens_224 : decode cX10_opens 224 = .ok (.ifCond .eq 11, 3) := by decide +kernel
theorem dX10_opens_227 : decode cX10_opens 227 = .ok (.aload_n 0, 1) := by decide +kernel
theorem dX10_opens_228 : decode cX10_opens 228 = .ok (.getfield 84, 3) := by decide +kernel
theorem dX10_opens_231 : decode cX10_opens 231 = .ok (.iload_n 1, 1) := by decide +kernel
theorem dX10_opens_232 : decode cX10_opens 232 = .ok (.iload 5, 2) := by decide +kernel
theorem dX10_opens_234 : decode cX10_opens 234 = .ok (.iastore, 1) := by decide +kernel
theorem dX10_opens_235 : decode cX10_opens 235 = .ok (.iinc 4 1, 3) := by decide +kernel
theorem dX10_opens_238 : decode cX10_opens 238 = .ok (.goto (-55), 3) := by decide +kernel
theorem dX10_opens_241 : decode cX10_opens 241 = .ok (.aload_n 0, 1) := by decide +kernel
theorem dX10_opens_242 : decode cX10_opens 242 = .ok (.getfield 84, 3) := by decide +kernel
theorem dX10_opens_245 : decode cX10_opens 245 = .ok (.iload_n 1, 1) := by decide +kernel
theorem dX10_opens_246 : decode cX10_opens 246 = .ok (.iaload, 1) := by decide +kernel
theorem dX10_opens_247 : decode cX10_opens 247 = .ok (.iconst (-1), 1) := by decide +kernel
theorem dX10_opens_248 : decode cX10_opens 248 = .ok (.if_icmp .eq 31, 3) := by decide +kernel
theorem dX10_opens_251 : decode cX10_opens 251 = .ok (.aload_n 0, 1) := by decide +kernel
theorem dX10_opens_252 : decode cX10_opens 252 = .ok (.getfield 66, 3) := by decide +kernel
theorem dX10_opens_255 : decode cX10_opens 255 = .ok (.iload_n 1, 1) := by decide +kernel
theorem dX10_opens_256 : decode cX10_opens 256 = .ok (.aload_n 0, 1) := by decide +kernel
theorem dX10_opens_257 : decode cX10_opens 257 = .ok (.getfield 84, 3) := by decide +kernel
theorem dX10_opens_260 : decode cX10_opens 260 = .ok (.iload_n 1, 1) := by decide +kernel
theorem dX10_opens_261 : decode cX10_opens 261 = .ok (.iaload, 1) := by decide +kernel
theorem dX10_opens_262 : decode cX10_opens 262 = .ok (.invokestatic 151, 3) := by decide +kernel
theorem dX10_opens_265 : decode cX10_opens 265 = .ok (.iconst 1, 1) := by decide +kernel
theorem dX10_opens_266 : decode cX10_opens 266 = .ok (.bastore, 1) := by decide +kernel
theorem dX10_opens_267 : decode cX10_opens 267 = .ok (.aload_n 0, 1) := by decide +kernel
theorem dX10_opens_268 : decode cX10_opens 268 = .ok (.getfield 87, 3) := by decide +kernel
theorem dX10_opens_271 : decode cX10_opens 271 = .ok (.iload_n 1, 1) := by decide +kernel
theorem dX10_opens_272 : decode cX10_opens 272 = .ok (.aload_n 0, 1) := by decide +kernel
theorem dX10_opens_273 : decode cX10_opens 273 = .ok (.getfield 84, 3) := by decide +kernel
theorem dX10_opens_276 : decode cX10_opens 276 = .ok (.iload_n 1, 1) := by decide +kernel
theorem dX10_opens_277 : decode cX10_opens 277 = .ok (.iaload, 1) := by decide +kernel
theorem dX10_opens_278 : decode cX10_opens 278 = .ok (.iastore, 1) := by decide +kernel
theorem dX10_opens_279 : decode cX10_opens 279 = .ok (.iconst 0, 1) := by decide +kernel
theorem dX10_opens_280 : decode cX10_opens 280 = .ok (.istore 4, 2) := by decide +kernel
theorem dX10_opens_282 : decode cX10_opens 282 = .ok (.iload 4, 2) := by decide +kernel
theorem dX10_opens_284 : decode cX10_opens 284 = .ok (.aload_n 0, 1) := by decide +kernel
theorem dX10_opens_285 : decode cX10_opens 285 = .ok (.getfield 136, 3) := by decide +kernel
theorem dX10_opens_288 : decode cX10_opens 288 = .ok (.if_icmp .ge 33, 3) := by decide +kernel
theorem dX10_opens_291 : decode cX10_opens 291 = .ok (.aload_n 0, 1) := by decide +kernel
theorem dX10_opens_292 : decode cX10_opens 292 = .ok (.getfield 78, 3) := by decide +kernel
theorem dX10_opens_295 : decode cX10_opens 295 = .ok (.iload_n 1, 1) := by decide +kernel
theorem dX10_opens_296 : decode cX10_opens 296 = .ok (.iload 4, 2) := by decide +kernel
theorem dX10_opens_298 : decode cX10_opens 298 = .ok (.invokestatic 151, 3) := by decide +kernel
theorem dX10_opens_301 : decode cX10_opens 301 = .ok (.iconst 0, 1) := by decide +kernel
theorem dX10_opens_302 : decode cX10_opens 302 = .ok (.iastore, 1) := by decide +kernel
theorem dX10_opens_303 : decode cX10_opens 303 = .ok (.aload_n 0, 1) := by decide +kernel
theorem dX10_opens_304 : decode cX10_opens 304 = .ok (.getfield 81, 3) := by decide +kernel
theorem dX10_opens_307 : decode cX10_opens 307 = .ok (.iload_n 1, 1) := by decide +kernel
theorem dX10_opens_308 : decode cX10_opens 308 = .ok (.iload 4, 2) := by decide +kernel
theorem dX10_opens_310 : decode cX10_opens 310 = .ok (.invokestatic 151, 3) := by decide +kernel
theorem dX10_opens_313 : decode cX10_opens 313 = .ok (.iconst 0, 1) := by decide +kernel
theorem dX10_opens_314 : decode cX10_opens 314 = .ok (.iastore, 1) := by decide +kernel
theorem dX10_opens_315 : decode cX10_opens 315 = .ok (.iinc 4 1, 3) := by decide +kernel
theorem dX10_opens_318 : decode cX10_opens 318 = .ok (.goto (-36), 3) := by decide +kernel
theorem dX10_opens_321 : decode cX10_opens 321 = .ok (.return_, 1) := by decide +kernel
set_option maxRecDepth 20000 in
theorem ggX10_isGiver_X10_isNear : GoodIn wsX10_isGiver wsX10_isNear := goodIn_r _ [7, 8, 9, 10, 11, 12, 6, 13, 14, 15, 16, 17, 18, 19, 20, 21, 22, 23, 24, 25, 26, 27, 28, 29, 30, 31, 32, 33, 34, 35, 36, 37, 38, 39, 40, 41, 42, 43, 44, 45, 46, 47, 48, 49, 50, 51, 52, 53, 54, 55, 56, 57, 58] (by decide +kernel) (by decide +kernel)
set_option maxRecDepth 20000 in
theorem gX10_isGiver_X10_isNear : GoodIn wsX10_isGiver (wsV RX10 154 RX10 yX10_isNear wsX10_isNear) := goodIn_app (goodIn_of _ (by decide +kernel)) ggX10_isGiver_X10_isNear
set_option maxRecDepth 20000 in
theorem ggX10_isGiver_X10_two : GoodIn wsX10_isGiver wsX10_two := goodIn_r _ [13] (by decide +kernel) (by decide +kernel)
set_option maxRecDepth 20000 in
theorem gX10_isGiver_X10_two : GoodIn wsX10_isGiver (va_wsS RX10 151 yX10_two wsX10_two) := goodIn_app (goodIn_of _ (by decide +kernel)) ggX10_isGiver_X10_two
theorem dX10_isGiver_0 : decode cX10_isGiver 0 = .ok (.iload_n 1, 1) := by decide +kernel
theorem dX10_isGiver_1 : decode cX10_isGiver 1 = .ok (.iload_n 2, 1) := by decide +kernel
theorem dX10_isGiver_2 : decode cX10_isGiver 2 = .ok (.if_icmp .eq 38, 3) := by decide +kernel
theorem dX10_isGiver_5 : decode cX10_isGiver 5 = .ok (.aload_n 0, 1) := by decide +kernel
theorem dX10_isGiver_6 : decode cX10_isGiver 6 = .ok (.iload_n 1, 1) := by decide +kernel
theorem dX10_isGiver_7 : decode cX10_isGiver 7 = .ok (.iload_n 2, 1) := by decide +kernel
theorem dX10_isGiver_8 : decode cX10_isGiver 8 = .ok (.invokevirtual 154, 3) := by decide +kernel
theorem dX10_isGiver_11 : decode cX10_isGiver 11 = .ok (.ifCond .eq 29, 3) := by decide +kernel
theorem dX10_isGiver_14 : decode cX10_isGiver 14 = .ok (.aload_n 0, 1) := by decide +kernel
theorem dX10_isGiver_15 : decode cX10_isGiver 15 = .ok (.getfield 66, 3) := by decide +kernel
theorem dX10_isGiver_18 : decode cX10_isGiver 18 = .ok (.iload_n 1, 1) := by decide +kernel
theorem dX10_isGiver_19 : decode cX10_isGiver 19 = .ok (.iload_n 2, 1) := by decide +kernel
theorem dX10_isGiver_20 : decode cX10_isGiver 20 = .ok (.invokestatic 151, 3) := by decide +kernel
theorem dX10_isGiver_23 : decode cX10_isGiver 23 = .ok (.baload, 1) := by decide +kernel
theorem dX10_isGiver_24 : decode cX10_isGiver 24 = .ok (.ifCond .eq 16, 3) := by decide +kernel
theorem dX10_isGiver_27 : decode cX10_isGiver 27 = .ok (.aload_n 0, 1) := by decide +kernel
theorem dX10_isGiver_28 : decode cX10_isGiver 28 = .ok (.getfield 114, 3) := by decide +kernel
theorem dX10_isGiver_31 : decode cX10_isGiver 31 = .ok (.iload_n 1, 1) := by decide +kernel
theorem dX10_isGiver_32 : decode cX10_isGiver 32 = .ok (.iaload, 1) := by decide +kernel
theorem dX10_isGiver_33 : decode cX10_isGiver 33 = .ok (.ifCond .le 7, 3) := by decide +kernel
theorem dX10_isGiver_36 : decode cX10_isGiver 36 = .ok (.iconst 1, 1) := by decide +kernel
theorem dX10_isGiver_37 : decode cX10_isGiver 37 = .ok (.goto 4, 3) := by decide +kernel
theorem dX10_isGiver_40 : decode cX10_isGiver 40 = .ok (.iconst 0, 1) := by decide +kernel
theorem dX10_isGiver_41 : decode cX10_isGiver 41 = .ok (.ireturn, 1) := by decide +kernel
set_option maxRecDepth 20000 in
theorem ggX10_bound_X10_cell : GoodIn wsX10_bound wsX10_cell := goodIn_r _ [12] (by decide +kernel) (by decide +kernel)
set_option maxRecDepth 20000 in
theorem gX10_bound_X10_cell : GoodIn wsX10_bound (va_wsS RX10 163 yX10_cell wsX10_cell) := goodIn_app (goodIn_of _ (by decide +kernel)) ggX10_bound_X10_cell
theorem dX10_bound_0 : decode cX10_bound 0 = .ok (.aload_n 0, 1) := by decide +kernel
theorem dX10_bound_1 : decode cX10_bound 1 = .ok (.getfield 51, 3) := by decide +kernel
theorem dX10_bound_4 : decode cX10_bound 4 = .ok (.bipush 24, 2) := by decide +kernel
theorem dX10_bound_6 : decode cX10_bound 6 = .ok (.iload_n 1, 1) := by decide +kernel
theorem dX10_bound_7 : decode cX10_bound 7 = .ok (.imul, 1) := by decide +kernel
theorem dX10_bound_8 : decode cX10_bound 8 = .ok (.iload_n 2, 1) := by decide +kernel
theorem dX10_bound_9 : decode cX10_bound 9 = .ok (.iadd, 1) := by decide +kernel
theorem dX10_bound_10 : decode cX10_bound 10 = .ok (.baload, 1) := by decide +kernel
theorem dX10_bound_11 : decode cX10_bound 11 = .ok (.ifCond .ne 5, 3) := by decide +kernel
theorem dX10_bound_14 : decode cX10_bound 14 = .ok (.iconst (-1), 1) := by decide +kernel
theorem dX10_bound_15 : decode cX10_bound 15 = .ok (.ireturn, 1) := by decide +kernel
theorem dX10_bound_16 : decode cX10_bound 16 = .ok (.iconst 0, 1) := by decide +kernel
theorem dX10_bound_17 : decode cX10_bound 17 = .ok (.istore 4, 2) := by decide +kernel
theorem dX10_bound_19 : decode cX10_bound 19 = .ok (.iload 4, 2) := by decide +kernel
theorem dX10_bound_21 : decode cX10_bound 21 = .ok (.aload_n 0, 1) := by decide +kernel
theorem dX10_bound_22 : decode cX10_bound 22 = .ok (.getfield 13, 3) := by decide +kernel
theorem dX10_bound_25 : decode cX10_bound 25 = .ok (.if_icmp .ge 37, 3) := by decide +kernel
theorem dX10_bound_28 : decode cX10_bound 28 = .ok (.aload_n 0, 1) := by decide +kernel
theorem dX10_bound_29 : decode cX10_bound 29 = .ok (.getfield 54, 3) := by decide +kernel
theorem dX10_bound_32 : decode cX10_bound 32 = .ok (.iload_n 1, 1) := by decide +kernel
theorem dX10_bound_33 : decode cX10_bound 33 = .ok (.iload_n 2, 1) := by decide +kernel
theorem dX10_bound_34 : decode cX10_bound 34 = .ok (.iload 4, 2) := by decide +kernel
theorem dX10_bound_36 : decode cX10_bound 36 = .ok (.invokestatic 163, 3) := by decide +kernel
theorem dX10_bound_39 : decode cX10_bound 39 = .ok (.baload, 1) := by decide +kernel
theorem dX10_bound_40 : decode cX10_bound 40 = .ok (.ifCond .eq 16, 3) := by decide +kernel
theorem dX10_bound_43 : decode cX10_bound 43 = .ok (.aload_n 0, 1) := by decide +kernel
theorem dX10_bound_44 : decode cX10_bound 44 = .ok (.getfield 60, 3) := by decide +kernel
theorem dX10_bound_47 : decode cX10_bound 47 = .ok (.iload_n 1, 1) := by decide +kernel
theorem dX10_bound_48 : decode cX10_bound 48 = .ok (.iload_n 2, 1) := by decide +kernel
theorem dX10_bound_49 : decode cX10_bound 49 = .ok (.iload 4, 2) := by decide +kernel
theorem dX10_bound_51 : decode cX10_bound 51 = .ok (.invokestatic 163, 3) := by decide +kernel
theorem dX10_bound_54 : decode cX10_bound 54 = .ok (.iaload, 1) := by decide +kernel
theorem dX10_bound_55 : decode cX10_bound 55 = .ok (.ireturn, 1) := by decide +kernel
theorem dX10_bound_56 : decode cX10_bound 56 = .ok (.iinc 4 1, 3) := by decide +kernel
theorem dX10_bound_59 : decode cX10_bound 59 = .ok (.goto (-40), 3) := by decide +kernel
theorem dX10_bound_62 : decode cX10_bound 62 = .ok (.iconst 0, 1) := by decide +kernel
theorem dX10_bound_63 : decode cX10_bound 63 = .ok (.istore 4, 2) := by decide +kernel
theorem dX10_bound_65 : decode cX10_bound 65 = .ok (.iload 4, 2) := by decide +kernel
theorem dX10_bound_67 : decode cX10_bound 67 = .ok (.aload_n 0, 1) := by decide +kernel
theorem dX10_bound_68 : decode cX10_bound 68 = .ok (.getfield 170, 3) := by decide +kernel
theorem dX10_bound_71 : decode cX10_bound 71 = .ok (.if_icmp .ge 39, 3) := by decide +kernel
theorem dX10_bound_74 : decode cX10_bound 74 = .ok (.aload_n 0, 1) := by decide +kernel
theorem dX10_bound_75 : decode cX10_bound 75 = .ok (.getfield 90, 3) := by decide +kernel
theorem dX10_bound_78 : decode cX10_bound 78 = .ok (.iload 4, 2) := by decide +kernel
theorem dX10_bound_80 : decode cX10_bound 80 = .ok (.iaload, 1) := by decide +kernel
theorem dX10_bound_81 : decode cX10_bound 81 = .ok (.iload_n 1, 1) := by decide +kernel
theorem dX10_bound_82 : decode cX10_bound 82 = .ok (.if_icmp .ne 22, 3) := by decide +kernel
theorem dX10_bound_85 : decode cX10_bound 85 = .ok (.aload_n 0, 1) := by decide +kernel
theorem dX10_bound_86 : decode cX10_bound 86 = .ok (.getfield 96, 3) := by decide +kernel
theorem dX10_bound_89 : decode cX10_bound 89 = .ok (.iload 4, 2) := by decide +kernel
theorem dX10_bound_91 : decode cX10_bound 91 = .ok (.iaload, 1) := by decide +kernel
theorem dX10_bound_92 : decode cX10_bound 92 = .ok (.iload_n 2, 1) := by decide +kernel
theorem dX10_bound_93 : decode cX10_bound 93 = .ok (.if_icmp .ne 11, 3) := by decide +kernel
theorem dX10_bound_96 : decode cX10_bound 96 = .ok (.aload_n 0, 1) := by decide +kernel
theorem dX10_bound_97 : decode cX10_bound 97 = .ok (.getfield 93, 3) := by decide +kernel
theorem dX10_bound_100 : decode cX10_bound 100 = .ok (.iload 4, 2) := by decide +kernel
theorem dX10_bound_102 : decode cX10_bound 102 = .ok (.iaload, 1) := by decide +kernel
theorem dX10_bound_103 : decode cX10_bound 103 = .ok (.ireturn, 1) := by decide +kernel
theorem dX10_bound_104 : decode cX10_bound 104 = .ok (.iinc 4 1, 3) := by decide +kernel
theorem dX10_bound_107 : decode cX10_bound 107 = .ok (.goto (-42), 3) := by decide +kernel
theorem dX10_bound_110 : decode cX10_bound 110 = .ok (.iconst (-1), 1) := by decide +kernel
theorem dX10_bound_111 : decode cX10_bound 111 = .ok (.ireturn, 1) := by decide +kernel
set_option maxRecDepth 20000 in
theorem ggX10_giver_X10_isGiver : GoodIn wsX10_giver wsX10_isGiver := goodIn_r _ [7, 8, 2, 9, 10, 11, 6, 12, 13, 14, 15, 16, 17, 18, 25, 26, 27, 28, 29, 30, 31, 32, 33, 34, 35, 36, 37, 38, 39, 40, 41, 42, 43, 44, 45, 46, 47, 48, 49, 50, 51, 52, 53, 54, 55, 56, 57, 58, 59, 60, 61, 62, 63, 64, 65, 66, 67, 68, 69] (by decide +kernel) (by decide +kernel)
set_option maxRecDepth 20000 in
theorem gX10_giver_X10_isGiver : GoodIn wsX10_giver (wsV RX10 215 RX10 yX10_isGiver wsX10_isGiver) := goodIn_app (goodIn_of _ (by decide +kernel)) ggX10_giver_X10_isGiver
set_option maxRecDepth 20000 in
theorem ggX10_giver_X10_tells : GoodIn wsX10_giver wsX10_tells := goodIn_r _ [22, 23, 24, 25, 26, 27, 28, 29, 30, 31, 32, 33, 34, 35, 36, 37, 38, 39, 40, 41, 42, 43, 44, 45, 46, 47, 48, 49, 50, 51, 52, 53, 54, 55, 56, 57, 58, 59, 60, 61, 62, 63, 64, 65, 66, 67, 68, 69] (by decide +kernel) (by decide +kernel)
set_option maxRecDepth 20000 in
theorem gX10_giver_X10_tells : GoodIn wsX10_giver (wsV RX10 157 RX10 yX10_tells wsX10_tells) := goodIn_app (goodIn_of _ (by decide +kernel)) ggX10_giver_X10_tells
theorem dX10_giver_0 : decode cX10_giver 0 = .ok (.iconst (-1), 1) := by decide +kernel
theorem dX10_giver_1 : decode cX10_giver 1 = .ok (.istore 5, 2) := by decide +kernel
theorem dX10_giver_3 : decode cX10_giver 3 = .ok (.iconst 0, 1) := by decide +kernel
theorem dX10_giver_4 : decode cX10_giver 4 = .ok (.istore 6, 2) := by decide +kernel
theorem dX10_giver_6 : decode cX10_giver 6 = .ok (.iload 6, 2) := by decide +kernel
theorem dX10_giver_8 : decode cX10_giver 8 = .ok (.aload_n 0, 1) := by decide +kernel
theorem dX10_giver_9 : decode cX10_giver 9 = .ok (.getfield 136, 3) := by decide +kernel
theorem dX10_giver_12 : decode cX10_giver 12 = .ok (.if_icmp .ge 77, 3) := by decide +kernel
theorem dX10_giver_15 : decode cX10_giver 15 = .ok (.aload_n 0, 1) := by decide +kernel
theorem dX10_giver_16 : decode cX10_giver 16 = .ok (.iload 6, 2) := by decide +kernel
theorem dX10_giver_18 : decode cX10_giver 18 = .ok (.iload_n 1, 1) := by decide +kernel
theorem dX10_giver_19 : decode cX10_giver 19 = .ok (.invokevirtual 215, 3) := by decide +kernel
theorem dX10_giver_22 : decode cX10_giver 22 = .ok (.ifCond .eq 61, 3) := by decide +kernel
theorem dX10_giver_25 : decode cX10_giver 25 = .ok (.aload_n 0, 1) := by decide +kernel
theorem dX10_giver_26 : decode cX10_giver 26 = .ok (.iload 6, 2) := by decide +kernel
theorem dX10_giver_28 : decode cX10_giver 28 = .ok (.iload_n 2, 1) := by decide +kernel
theorem dX10_giver_29 : decode cX10_giver 29 = .ok (.invokevirtual 157, 3) := by decide +kernel
theorem dX10_giver_32 : decode cX10_giver 32 = .ok (.ifCond .eq 51, 3) := by decide +kernel
theorem dX10_giver_35 : decode cX10_giver 35 = .ok (.iload_n 3, 1) := by decide +kernel
theorem dX10_giver_36 : decode cX10_giver 36 = .ok (.iconst (-1), 1) := by decide +kernel
theorem dX10_giver_37 : decode cX10_giver 37 = .ok (.if_icmp .eq 9, 3) := by decide +kernel
theorem dX10_giver_40 : decode cX10_giver 40 = .ok (.iload 6, 2) := by decide +kernel
theorem dX10_giver_42 : decode cX10_giver 42 = .ok (.iload_n 3, 1) := by decide +kernel
theorem dX10_giver_43 : decode cX10_giver 43 = .ok (.if_icmp .ne 40, 3) := by decide +kernel
theorem dX10_giver_46 : decode cX10_giver 46 = .ok (.iload 6, 2) := by decide +kernel
theorem dX10_giver_48 : decode cX10_giver 48 = .ok (.iload 4, 2) := by decide +kernel
theorem dX10_giver_50 : decode cX10_giver 50 = .ok (.if_icmp .ne 6, 3) := by decide +kernel
theorem dX10_giver_53 : decode cX10_giver 53 = .ok (.goto 30, 3) := by decide +kernel
theorem dX10_giver_56 : decode cX10_giver 56 = .ok (.iload 5, 2) := by decide +kernel
theorem dX10_giver_58 : decode cX10_giver 58 = .ok (.iconst (-1), 1) := by decide +kernel
theorem dX10_giver_59 : decode cX10_giver 59 = .ok (.if_icmp .eq 20, 3) := by decide +kernel
theorem dX10_giver_62 : decode cX10_giver 62 = .ok (.aload_n 0, 1) := by decide +kernel
theorem dX10_giver_63 : decode cX10_giver 63 = .ok (.getfield 114, 3) := by decide +kernel
theorem dX10_giver_66 : decode cX10_giver 66 = .ok (.iload 6, 2) := by decide +kernel
theorem dX10_giver_68 : decode cX10_giver 68 = .ok (.iaload, 1) := by decide +kernel
theorem dX10_giver_69 : decode cX10_giver 69 = .ok (.aload_n 0, 1) := by decide +kernel
theorem dX10_giver_70 : decode cX10_giver 70 = .ok (.getfield 114, 3) := by decide +kernel
theorem dX10_giver_73 : decode cX10_giver 73 = .ok (.iload 5, 2) := by decide +kernel
theorem dX10_giver_75 : decode cX10_giver 75 = .ok (.iaload, 1) := by decide +kernel
theorem dX10_giver_76 : decode cX10_giver 76 = .ok (.if_icmp .le 7, 3) := by decide +kernel
theorem dX10_giver_79 : decode cX10_giver 79 = .ok (.iload 6, 2) := by decide +kernel
theorem dX10_giver_81 : decode cX10_giver 81 = .ok (.istore 5, 2) := by decide +kernel
