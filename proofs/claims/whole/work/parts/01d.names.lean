theorem dX6_holds_0 : decode cX6_holds 0 = .ok (.aload_n 0, 1) := by decide +kernel
theorem dX6_holds_1 : decode cX6_holds 1 = .ok (.getfield 41, 3) := by decide +kernel
theorem dX6_holds_4 : decode cX6_holds 4 = .ok (.iload_n 1, 1) := by decide +kernel
theorem dX6_holds_5 : decode cX6_holds 5 = .ok (.invokestatic 44, 3) := by decide +kernel
theorem dX6_holds_8 : decode cX6_holds 8 = .ok (.ifCond .ne 21, 3) := by decide +kernel
theorem dX6_holds_11 : decode cX6_holds 11 = .ok (.aload_n 0, 1) := by decide +kernel
theorem dX6_holds_12 : decode cX6_holds 12 = .ok (.getfield 9, 3) := by decide +kernel
theorem dX6_holds_15 : decode cX6_holds 15 = .ok (.iload_n 1, 1) := by decide +kernel
theorem dX6_holds_16 : decode cX6_holds 16 = .ok (.iload_n 2, 1) := by decide +kernel
theorem dX6_holds_17 : decode cX6_holds 17 = .ok (.invokestatic 30, 3) := by decide +kernel
theorem dX6_holds_20 : decode cX6_holds 20 = .ok (.iaload, 1) := by decide +kernel
theorem dX6_holds_21 : decode cX6_holds 21 = .ok (.iconst (-1), 1) := by decide +kernel
theorem dX6_holds_22 : decode cX6_holds 22 = .ok (.if_icmp .eq 7, 3) := by decide +kernel
theorem dX6_holds_25 : decode cX6_holds 25 = .ok (.iconst 1, 1) := by decide +kernel
theorem dX6_holds_26 : decode cX6_holds 26 = .ok (.goto 4, 3) := by decide +kernel
theorem dX6_holds_29 : decode cX6_holds 29 = .ok (.iconst 0, 1) := by decide +kernel
theorem dX6_holds_30 : decode cX6_holds 30 = .ok (.ireturn, 1) := by decide +kernel
set_option maxRecDepth 20000 in
theorem ggX6_heldOf_X6_holds : GoodIn wsX6_heldOf wsX6_holds := goodIn_r _ [5, 6, 7, 8, 9, 10, 11, 12, 15, 16, 17, 18, 19, 20] (by decide +kernel) (by decide +kernel)
set_option maxRecDepth 20000 in
theorem gX6_heldOf_X6_holds : GoodIn wsX6_heldOf (wsV RX6 48 RX6 yX6_holds wsX6_holds) := goodIn_app (goodIn_of _ (by decide +kernel)) ggX6_heldOf_X6_holds
set_option maxRecDepth 20000 in
theorem ggX6_heldOf_X9_oneIf : GoodIn wsX6_heldOf wsX9_oneIf := goodIn_r _ [14] (by decide +kernel) (by decide +kernel)
set_option maxRecDepth 20000 in
theorem gX6_heldOf_X9_oneIf_n51 : GoodIn wsX6_heldOf (wsX9_oneIf) := ggX6_heldOf_X9_oneIf
theorem dX6_heldOf_0 : decode cX6_heldOf 0 = .ok (.iconst 0, 1) := by decide +kernel
theorem dX6_heldOf_1 : decode cX6_heldOf 1 = .ok (.istore_n 2, 1) := by decide +kernel
theorem dX6_heldOf_2 : decode cX6_heldOf 2 = .ok (.iconst 0, 1) := by decide +kernel
theorem dX6_heldOf_3 : decode cX6_heldOf 3 = .ok (.istore_n 3, 1) := by decide +kernel
theorem dX6_heldOf_4 : decode cX6_heldOf 4 = .ok (.iload_n 3, 1) := by decide +kernel
theorem dX6_heldOf_5 : decode cX6_heldOf 5 = .ok (.iconst 4, 1) := by decide +kernel
theorem dX6_heldOf_6 : decode cX6_heldOf 6 = .ok (.if_icmp .ge 21, 3) := by decide +kernel
theorem dX6_heldOf_9 : decode cX6_heldOf 9 = .ok (.iload_n 2, 1) := by decide +kernel
theorem dX6_heldOf_10 : decode cX6_heldOf 10 = .ok (.aload_n 0, 1) := by decide +kernel
theorem dX6_heldOf_11 : decode cX6_heldOf 11 = .ok (.iload_n 1, 1) := by decide +kernel
theorem dX6_heldOf_12 : decode cX6_heldOf 12 = .ok (.iload_n 3, 1) := by decide +kernel
theorem dX6_heldOf_13 : decode cX6_heldOf 13 = .ok (.invokevirtual 48, 3) := by decide +kernel
theorem dX6_heldOf_16 : decode cX6_heldOf 16 = .ok (.invokestatic 51, 3) := by decide +kernel
theorem dX6_heldOf_19 : decode cX6_heldOf 19 = .ok (.iadd, 1) := by decide +kernel
theorem dX6_heldOf_20 : decode cX6_heldOf 20 = .ok (.istore_n 2, 1) := by decide +kernel
theorem dX6_heldOf_21 : decode cX6_heldOf 21 = .ok (.iinc 3 1, 3) := by decide +kernel
theorem dX6_heldOf_24 : decode cX6_heldOf 24 = .ok (.goto (-20), 3) := by decide +kernel
theorem dX6_heldOf_27 : decode cX6_heldOf 27 = .ok (.iload_n 2, 1) := by decide +kernel
theorem dX6_heldOf_28 : decode cX6_heldOf 28 = .ok (.ireturn, 1) := by decide +kernel
set_option maxRecDepth 20000 in
theorem ggX6_heldInAll_X6_heldOf : GoodIn wsX6_heldInAll wsX6_heldOf := goodIn_r _ [5, 6, 7, 8, 4, 9, 10, 11, 12, 13, 14, 15, 16, 17, 18, 19, 20, 21, 22, 23, 24] (by decide +kernel) (by decide +kernel)
set_option maxRecDepth 20000 in
theorem gX6_heldInAll_X6_heldOf : GoodIn wsX6_heldInAll (wsV RX6 55 RX6 yX6_heldOf wsX6_heldOf) := goodIn_app (goodIn_of _ (by decide +kernel)) ggX6_heldInAll_X6_heldOf
theorem dX6_heldInAll_0 : decode cX6_heldInAll 0 = .ok (.iconst 0, 1) := by decide +kernel
theorem dX6_heldInAll_1 : decode cX6_heldInAll 1 = .ok (.istore_n 1, 1) := by decide +kernel
theorem dX6_heldInAll_2 : decode cX6_heldInAll 2 = .ok (.iconst 0, 1) := by decide +kernel
theorem dX6_heldInAll_3 : decode cX6_heldInAll 3 = .ok (.istore_n 2, 1) := by decide +kernel
theorem dX6_heldInAll_4 : decode cX6_heldInAll 4 = .ok (.iload_n 2, 1) := by decide +kernel
theorem dX6_heldInAll_5 : decode cX6_heldInAll 5 = .ok (.bipush 24, 2) := by decide +kernel
theorem dX6_heldInAll_7 : decode cX6_heldInAll 7 = .ok (.if_icmp .ge 17, 3) := by decide +kernel
theorem dX6_heldInAll_10 : decode cX6_heldInAll 10 = .ok (.iload_n 1, 1) := by decide +kernel
theorem dX6_heldInAll_11 : decode cX6_heldInAll 11 = .ok (.aload_n 0, 1) := by decide +kernel
theorem dX6_heldInAll_12 : decode cX6_heldInAll 12 = .ok (.iload_n 2, 1) := by decide +kernel
theorem dX6_heldInAll_13 : decode cX6_heldInAll 13 = .ok (.invokevirtual 55, 3) := by decide +kernel
theorem dX6_heldInAll_16 : decode cX6_heldInAll 16 = .ok (.iadd, 1) := by decide +kernel
theorem dX6_heldInAll_17 : decode cX6_heldInAll 17 = .ok (.istore_n 1, 1) := by decide +kernel
theorem dX6_heldInAll_18 : decode cX6_heldInAll 18 = .ok (.iinc 2 1, 3) := by decide +kernel
theorem dX6_heldInAll_21 : decode cX6_heldInAll 21 = .ok (.goto (-17), 3) := by decide +kernel
theorem dX6_heldInAll_24 : decode cX6_heldInAll 24 = .ok (.iload_n 1, 1) := by decide +kernel
theorem dX6_heldInAll_25 : decode cX6_heldInAll 25 = .ok (.ireturn, 1) := by decide +kernel
set_option maxRecDepth 20000 in
theorem ggX6_isBare_X6_heldInAll : GoodIn wsX6_isBare wsX6_heldInAll := goodIn_r _ [7, 8, 9, 10, 6, 11, 12, 13, 14, 15, 1, 16, 17, 18, 19, 20, 21, 22, 23, 24, 25, 26, 27, 28, 29] (by decide +kernel) (by decide +kernel)
set_option maxRecDepth 20000 in
theorem gX6_isBare_X6_heldInAll : GoodIn wsX6_isBare (wsV RX6 62 RX6 yX6_heldInAll wsX6_heldInAll) := goodIn_app (goodIn_of _ (by decide +kernel)) ggX6_isBare_X6_heldInAll
theorem dX6_isBare_0 : decode cX6_isBare 0 = .ok (.aload_n 0, 1) := by decide +kernel
theorem dX6_isBare_1 : decode cX6_isBare 1 = .ok (.getfield 41, 3) := by decide +kernel
theorem dX6_isBare_4 : decode cX6_isBare 4 = .ok (.ifCond .ne 21, 3) := by decide +kernel
theorem dX6_isBare_7 : decode cX6_isBare 7 = .ok (.aload_n 0, 1) := by decide +kernel
theorem dX6_isBare_8 : decode cX6_isBare 8 = .ok (.getfield 59, 3) := by decide +kernel
theorem dX6_isBare_11 : decode cX6_isBare 11 = .ok (.ifCond .ne 14, 3) := by decide +kernel
theorem dX6_isBare_14 : decode cX6_isBare 14 = .ok (.aload_n 0, 1) := by decide +kernel
theorem dX6_isBare_15 : decode cX6_isBare 15 = .ok (.invokevirtual 62, 3) := by decide +kernel
theorem dX6_isBare_18 : decode cX6_isBare 18 = .ok (.ifCond .ne 7, 3) := by decide +kernel
theorem dX6_isBare_21 : decode cX6_isBare 21 = .ok (.iconst 1, 1) := by decide +kernel
theorem dX6_isBare_22 : decode cX6_isBare 22 = .ok (.goto 4, 3) := by decide +kernel
theorem dX6_isBare_25 : decode cX6_isBare 25 = .ok (.iconst 0, 1) := by decide +kernel
theorem dX6_isBare_26 : decode cX6_isBare 26 = .ok (.ireturn, 1) := by decide +kernel
set_option maxRecDepth 20000 in
theorem ggX6_firstGiver_X9_place : GoodIn wsX6_firstGiver wsX9_place := goodIn_r _ [4] (by decide +kernel) (by decide +kernel)
set_option maxRecDepth 20000 in
theorem gX6_firstGiver_X9_place_n30 : GoodIn wsX6_firstGiver (wsX9_place) := ggX6_firstGiver_X9_place
theorem dX6_firstGiver_0 : decode cX6_firstGiver 0 = .ok (.iconst 0, 1) := by decide +kernel
theorem dX6_firstGiver_1 : decode cX6_firstGiver 1 = .ok (.istore_n 2, 1) := by decide +kernel
theorem dX6_firstGiver_2 : decode cX6_firstGiver 2 = .ok (.iload_n 2, 1) := by decide +kernel
theorem dX6_firstGiver_3 : decode cX6_firstGiver 3 = .ok (.iconst 4, 1) := by decide +kernel
theorem dX6_firstGiver_4 : decode cX6_firstGiver 4 = .ok (.if_icmp .ge 27, 3) := by decide +kernel
theorem dX6_firstGiver_7 : decode cX6_firstGiver 7 = .ok (.aload_n 0, 1) := by decide +kernel
theorem dX6_firstGiver_8 : decode cX6_firstGiver 8 = .ok (.getfield 9, 3) := by decide +kernel
theorem dX6_firstGiver_11 : decode cX6_firstGiver 11 = .ok (.iload_n 1, 1) := by decide +kernel
theorem dX6_firstGiver_12 : decode cX6_firstGiver 12 = .ok (.iload_n 2, 1) := by decide +kernel
theorem dX6_firstGiver_13 : decode cX6_firstGiver 13 = .ok (.invokestatic 30, 3) := by decide +kernel
theorem dX6_firstGiver_16 : decode cX6_firstGiver 16 = .ok (.iaload, 1) := by decide +kernel
theorem dX6_firstGiver_17 : decode cX6_firstGiver 17 = .ok (.istore_n 3, 1) := by decide +kernel
theorem dX6_firstGiver_18 : decode cX6_firstGiver 18 = .ok (.iload_n 3, 1) := by decide +kernel
theorem dX6_firstGiver_19 : decode cX6_firstGiver 19 = .ok (.iconst (-1), 1) := by decide +kernel
theorem dX6_firstGiver_20 : decode cX6_firstGiver 20 = .ok (.if_icmp .eq 5, 3) := by decide +kernel
theorem dX6_firstGiver_23 : decode cX6_firstGiver 23 = .ok (.iload_n 3, 1) := by decide +kernel
theorem dX6_firstGiver_24 : decode cX6_firstGiver 24 = .ok (.ireturn, 1) := by decide +kernel
theorem dX6_firstGiver_25 : decode cX6_firstGiver 25 = .ok (.iinc 2 1, 3) := by decide +kernel
theorem dX6_firstGiver_28 : decode cX6_firstGiver 28 = .ok (.goto (-26), 3) := by decide +kernel
theorem dX6_firstGiver_31 : decode cX6_firstGiver 31 = .ok (.iconst (-1), 1) := by decide +kernel
theorem dX6_firstGiver_32 : decode cX6_firstGiver 32 = .ok (.ireturn, 1) := by decide +kernel
set_option maxRecDepth 20000 in
theorem ggX6_giversOf_X9_place : GoodIn wsX6_giversOf wsX9_place := goodIn_r _ [4] (by decide +kernel) (by decide +kernel)
set_option maxRecDepth 20000 in
theorem gX6_giversOf_X9_place_n30 : GoodIn wsX6_giversOf (wsX9_place) := ggX6_giversOf_X9_place
theorem dX6_giversOf_0 : decode cX6_giversOf 0 = .ok (.iconst 0, 1) := by decide +kernel
theorem dX6_giversOf_1 : decode cX6_giversOf 1 = .ok (.istore_n 2, 1) := by decide +kernel
theorem dX6_giversOf_2 : decode cX6_giversOf 2 = .ok (.iconst 0, 1) := by decide +kernel
theorem dX6_giversOf_3 : decode cX6_giversOf 3 = .ok (.istore_n 3, 1) := by decide +kernel
theorem dX6_giversOf_4 : decode cX6_giversOf 4 = .ok (.iload_n 3, 1) := by decide +kernel
theorem dX6_giversOf_5 : decode cX6_giversOf 5 = .ok (.iconst 4, 1) := by decide +kernel
theorem dX6_giversOf_6 : decode cX6_giversOf 6 = .ok (.if_icmp .ge 34, 3) := by decide +kernel
theorem dX6_giversOf_9 : decode cX6_giversOf 9 = .ok (.aload_n 0, 1) := by decide +kernel
theorem dX6_giversOf_10 : decode cX6_giversOf 10 = .ok (.getfield 9, 3) := by decide +kernel
theorem dX6_giversOf_13 : decode cX6_giversOf 13 = .ok (.iload_n 1, 1) := by decide +kernel
theorem dX6_giversOf_14 : decode cX6_giversOf 14 = .ok (.iload_n 3, 1) := by decide +kernel
theorem dX6_giversOf_15 : decode cX6_giversOf 15 = .ok (.invokestatic 30, 3) := by decide +kernel
theorem dX6_giversOf_18 : decode cX6_giversOf 18 = .ok (.iaload, 1) := by decide +kernel
theorem dX6_giversOf_19 : decode cX6_giversOf 19 = .ok (.istore 4, 2) := by decide +kernel
theorem dX6_giversOf_21 : decode cX6_giversOf 21 = .ok (.iload 4, 2) := by decide +kernel
theorem dX6_giversOf_23 : decode cX6_giversOf 23 = .ok (.iconst (-1), 1) := by decide +kernel
theorem dX6_giversOf_24 : decode cX6_giversOf 24 = .ok (.if_icmp .eq 10, 3) := by decide +kernel
theorem dX6_giversOf_27 : decode cX6_giversOf 27 = .ok (.iload_n 2, 1) := by decide +kernel
theorem dX6_giversOf_28 : decode cX6_giversOf 28 = .ok (.iconst 1, 1) := by decide +kernel
theorem dX6_giversOf_29 : decode cX6_giversOf 29 = .ok (.iload 4, 2) := by decide +kernel
theorem dX6_giversOf_31 : decode cX6_giversOf 31 = .ok (.ishl, 1) := by decide +kernel
theorem dX6_giversOf_32 : decode cX6_giversOf 32 = .ok (.ior, 1) := by decide +kernel
theorem dX6_giversOf_33 : decode cX6_giversOf 33 = .ok (.istore_n 2, 1) := by decide +kernel
theorem dX6_giversOf_34 : decode cX6_giversOf 34 = .ok (.iinc 3 1, 3) := by decide +kernel
theorem dX6_giversOf_37 : decode cX6_giversOf 37 = .ok (.goto (-33), 3) := by decide +kernel
theorem dX6_giversOf_40 : decode cX6_giversOf 40 = .ok (.iload_n 2, 1) := by decide +kernel
theorem dX6_giversOf_41 : decode cX6_giversOf 41 = .ok (.ireturn, 1) := by decide +kernel
set_option maxRecDepth 20000 in
theorem ggX6_isBegun_X6_holds : GoodIn wsX6_isBegun wsX6_holds := goodIn_r _ [6, 7, 8, 9, 10, 11, 12, 13, 14, 15, 16, 17, 18, 19] (by decide +kernel) (by decide +kernel)
set_option maxRecDepth 20000 in
theorem gX6_isBegun_X6_holds : GoodIn wsX6_isBegun (wsV RX6 48 RX6 yX6_holds wsX6_holds) := goodIn_app (goodIn_of _ (by decide +kernel)) ggX6_isBegun_X6_holds
set_option maxRecDepth 20000 in
theorem ggX6_isBegun_X9_place : GoodIn wsX6_isBegun wsX9_place := goodIn_r _ [13] (by decide +kernel) (by decide +kernel)
set_option maxRecDepth 20000 in
theorem gX6_isBegun_X9_place_n30 : GoodIn wsX6_isBegun (wsX9_place) := ggX6_isBegun_X9_place
theorem dX6_isBegun_0 : decode cX6_isBegun 0 = .ok (.iconst 0, 1) := by decide +kernel
theorem dX6_isBegun_1 : decode cX6_isBegun 1 = .ok (.istore_n 2, 1) := by decide +kernel
theorem dX6_isBegun_2 : decode cX6_isBegun 2 = .ok (.iload_n 2, 1) := by decide +kernel
theorem dX6_isBegun_3 : decode cX6_isBegun 3 = .ok (.iconst 4, 1) := by decide +kernel
theorem dX6_isBegun_4 : decode cX6_isBegun 4 = .ok (.if_icmp .ge 33, 3) := by decide +kernel
theorem dX6_isBegun_7 : decode cX6_isBegun 7 = .ok (.aload_n 0, 1) := by decide +kernel
theorem dX6_isBegun_8 : decode cX6_isBegun 8 = .ok (.iload_n 1, 1) := by decide +kernel
theorem dX6_isBegun_9 : decode cX6_isBegun 9 = .ok (.iload_n 2, 1) := by decide +kernel
theorem dX6_isBegun_10 : decode cX6_isBegun 10 = .ok (.invokevirtual 48, 3) := by decide +kernel
theorem dX6_isBegun_13 : decode cX6_isBegun 13 = .ok (.ifCond .ne 16, 3) := by decide +kernel
theorem dX6_isBegun_16 : decode cX6_isBegun 16 = .ok (.aload_n 0, 1) := by decide +kernel
theorem dX6_isBegun_17 : decode cX6_isBegun 17 = .ok (.getfield 18, 3) := by decide +kernel
theorem dX6_isBegun_20 : decode cX6_isBegun 20 = .ok (.iload_n 1, 1) := by decide +kernel
theorem dX6_isBegun_21 : decode cX6_isBegun 21 = .ok (.iload_n 2, 1) := by decide +kernel
theorem dX6_isBegun_22 : decode cX6_isBegun 22 = .ok (.invokestatic 30, 3) := by decide +kernel
theorem dX6_isBegun_25 : decode cX6_isBegun 25 = .ok (.iaload, 1) := by decide +kernel
theorem dX6_isBegun_26 : decode cX6_isBegun 26 = .ok (.ifCond .le 5, 3) := by decide +kernel
theorem dX6_isBegun_29 : decode cX6_isBegun 29 = .ok (.iconst 1, 1) := by decide +kernel
theorem dX6_isBegun_30 : decode cX6_isBegun 30 = .ok (.ireturn, 1) := by decide +kernel
theorem dX6_isBegun_31 : decode cX6_isBegun 31 = .ok (.iinc 2 1, 3) := by decide +kernel
theorem dX6_isBegun_34 : decode cX6_isBegun 34 = .ok (.goto (-32), 3) := by decide +kernel
theorem dX6_isBegun_37 : decode cX6_isBegun 37 = .ok (.iconst 0, 1) := by decide +kernel
theorem dX6_isBegun_38 : decode cX6_isBegun 38 = .ok (.ireturn, 1) := by decide +kernel
set_option maxRecDepth 20000 in
theorem ggX6_firstUnasked_X6_holds : GoodIn wsX6_firstUnasked wsX6_holds := goodIn_r _ [6, 7, 8, 9, 10, 11, 12, 13, 14, 15, 16, 17, 18, 19] (by decide +kernel) (by decide +kernel)
set_option maxRecDepth 20000 in
theorem gX6_firstUnasked_X6_holds : GoodIn wsX6_firstUnasked (wsV RX6 48 RX6 yX6_holds wsX6_holds) := goodIn_app (goodIn_of _ (by decide +kernel)) ggX6_firstUnasked_X6_holds
set_option maxRecDepth 20000 in
theorem ggX6_firstUnasked_X9_place : GoodIn wsX6_firstUnasked wsX9_place := goodIn_r _ [13] (by decide +kernel) (by decide +kernel)
set_option maxRecDepth 20000 in
theorem gX6_firstUnasked_X9_place_n30 : GoodIn wsX6_firstUnasked (wsX9_place) := ggX6_firstUnasked_X9_place
theorem dX6_firstUnasked_0 : decode cX6_firstUnasked 0 = .ok (.iconst 0, 1) := by decide +kernel
theorem dX6_firstUnasked_1 : decode cX6_firstUnasked 1 = .ok (.istore_n 3, 1) := by decide +kernel
theorem dX6_firstUnasked_2 : decode cX6_firstUnasked 2 = .ok (.iload_n 3, 1) := by decide +kernel
theorem dX6_firstUnasked_3 : decode cX6_firstUnasked 3 = .ok (.iload_n 2, 1) := by decide +kernel
theorem dX6_firstUnasked_4 : decode cX6_firstUnasked 4 = .ok (.if_icmp .ge 33, 3) := by decide +kernel
theorem dX6_firstUnasked_7 : decode cX6_firstUnasked 7 = .ok (.aload_n 0, 1) := by decide +kernel
theorem dX6_firstUnasked_8 : decode cX6_firstUnasked 8 = .ok (.iload_n 1, 1) := by decide +kernel
theorem dX6_firstUnasked_9 : decode cX6_firstUnasked 9 = .ok (.iload_n 3, 1) := by decide +kernel
theorem dX6_firstUnasked_10 : decode cX6_firstUnasked 10 = .ok (.invokevirtual 48, 3) := by decide +kernel
theorem dX6_firstUnasked_13 : decode cX6_firstUnasked 13 = .ok (.ifCond .ne 18, 3) := by decide +kernel
theorem dX6_firstUnasked_16 : decode cX6_firstUnasked 16 = .ok (.aload_n 0, 1) := by decide +kernel
theorem dX6_firstUnasked_17 : decode cX6_firstUnasked 17 = .ok (.getfield 18, 3) := by decide +kernel
theorem dX6_firstUnasked_20 : decode cX6_firstUnasked 20 = .ok (.iload_n 1, 1) := by decide +kernel
theorem dX6_firstUnasked_21 : decode cX6_firstUnasked 21 = .ok (.iload_n 3, 1) := by decide +kernel
theorem dX6_firstUnasked_22 : decode cX6_firstUnasked 22 = .ok (.invokestatic 30, 3) := by decide +kernel
theorem dX6_firstUnasked_25 : decode cX6_firstUnasked 25 = .ok (.iaload, 1) := by decide +kernel
theorem dX6_firstUnasked_26 : decode cX6_firstUnasked 26 = .ok (.ifCond .ne 5, 3) := by decide +kernel
theorem dX6_firstUnasked_29 : decode cX6_firstUnasked 29 = .ok (.iload_n 3, 1) := by decide +kernel
theorem dX6_firstUnasked_30 : decode cX6_firstUnasked 30 = .ok (.ireturn, 1) := by decide +kernel
theorem dX6_firstUnasked_31 : decode cX6_firstUnasked 31 = .ok (.iinc 3 1, 3) := by decide +kernel
theorem dX6_firstUnasked_34 : decode cX6_firstUnasked 34 = .ok (.goto (-32), 3) := by decide +kernel
theorem dX6_firstUnasked_37 : decode cX6_firstUnasked 37 = .ok (.iconst (-1), 1) := by decide +kernel
theorem dX6_firstUnasked_38 : decode cX6_firstUnasked 38 = .ok (.ireturn, 1) := by decide +kernel
set_option maxRecDepth 20000 in
theorem ggX6_expect_X9_place : GoodIn wsX6_expect wsX9_place := goodIn_r _ [5] (by decide +kernel) (by decide +kernel)
set_option maxRecDepth 20000 in
theorem gX6_expect_X9_place_n30 : GoodIn wsX6_expect (wsX9_place) := ggX6_expect_X9_place
theorem dX6_expect_0 : decode cX6_expect 0 = .ok (.aload_n 0, 1) := by decide +kernel
theorem dX6_expect_1 : decode cX6_expect 1 = .ok (.getfield 18, 3) := by decide +kernel
theorem dX6_expect_4 : decode cX6_expect 4 = .ok (.iload_n 1, 1) := by decide +kernel
theorem dX6_expect_5 : decode cX6_expect 5 = .ok (.iload_n 2, 1) := by decide +kernel
theorem dX6_expect_6 : decode cX6_expect 6 = .ok (.invokestatic 30, 3) := by decide +kernel
theorem dX6_expect_9 : decode cX6_expect 9 = .ok (.dup2, 1) := by decide +kernel
theorem dX6_expect_10 : decode cX6_expect 10 = .ok (.iaload, 1) := by decide +kernel
theorem dX6_expect_11 : decode cX6_expect 11 = .ok (.iconst 1, 1) := by decide +kernel
theorem dX6_expect_12 : decode cX6_expect 12 = .ok (.iadd, 1) := by decide +kernel
theorem dX6_expect_13 : decode cX6_expect 13 = .ok (.iastore, 1) := by decide +kernel
theorem dX6_expect_14 : decode cX6_expect 14 = .ok (.aload_n 0, 1) := by decide +kernel
theorem dX6_expect_15 : decode cX6_expect 15 = .ok (.dup, 1) := by decide +kernel
theorem dX6_expect_16 : decode cX6_expect 16 = .ok (.getfield 59, 3) := by decide +kernel
theorem dX6_expect_19 : decode cX6_expect 19 = .ok (.iconst 1, 1) := by decide +kernel
theorem dX6_expect_20 : decode cX6_expect 20 = .ok (.iadd, 1) := by decide +kernel
theorem dX6_expect_21 : decode cX6_expect 21 = .ok (.putfield 59, 3) := by decide +kernel
theorem dX6_expect_24 : decode cX6_expect 24 = .ok (.return_, 1) := by decide +kernel
set_option maxRecDepth 20000 in
theorem ggX6_expectNoMore_X9_place : GoodIn wsX6_expectNoMore wsX9_place := goodIn_r _ [5] (by decide +kernel) (by decide +kernel)
set_option maxRecDepth 20000 in
theorem gX6_expectNoMore_X9_place_n30 : GoodIn wsX6_expectNoMore (wsX9_place) := ggX6_expectNoMore_X9_place
theorem dX6_expectNoMore_0 : decode cX6_expectNoMore 0 = .ok (.aload_n 0, 1) := by decide +kernel
theorem dX6_expectNoMore_1 : decode cX6_expectNoMore 1 = .ok (.getfield 18, 3) := by decide +kernel
theorem dX6_expectNoMore_4 : decode cX6_expectNoMore 4 = .ok (.iload_n 1, 1) := by decide +kernel
theorem dX6_expectNoMore_5 : decode cX6_expectNoMore 5 = .ok (.iload_n 2, 1) := by decide +kernel
theorem dX6_expectNoMore_6 : decode cX6_expectNoMore 6 = .ok (.invokestatic 30, 3) := by decide +kernel
theorem dX6_expectNoMore_9 : decode cX6_expectNoMore 9 = .ok (.dup2, 1) := by decide +kernel
theorem dX6_expectNoMore_10 : decode cX6_expectNoMore 10 = .ok (.iaload, 1) := by decide +kernel
theorem dX6_expectNoMore_11 : decode cX6_expectNoMore 11 = .ok (.iconst 1, 1) := by decide +kernel
theorem dX6_expectNoMore_12 : decode cX6_expectNoMore 12 = .ok (.isub, 1) := by decide +kernel
theorem dX6_expectNoMore_13 : decode cX6_expectNoMore 13 = .ok (.iastore, 1) := by decide +kernel
theorem dX6_expectNoMore_14 : decode cX6_expectNoMore 14 = .ok (.aload_n 0, 1) := by decide +kernel
theorem dX6_expectNoMore_15 : decode cX6_expectNoMore 15 = .ok (.dup, 1) := by decide +kernel
theorem dX6_expectNoMore_16 : decode cX6_expectNoMore 16 = .ok (.getfield 59, 3) := by decide +kernel
theorem dX6_expectNoMore_19 : decode cX6_expectNoMore 19 = .ok (.iconst 1, 1) := by decide +kernel
theorem dX6_expectNoMore_20 : decode cX6_expectNoMore 20 = .ok (.isub, 1) := by decide +kernel
theorem dX6_expectNoMore_21 : decode cX6_expectNoMore 21 = .ok (.putfield 59, 3) := by decide +kernel
theorem dX6_expectNoMore_24 : decode cX6_expectNoMore 24 = .ok (.return_, 1) := by decide +kernel
set_option maxRecDepth 20000 in
theorem ggX6_put_X9_place : GoodIn wsX6_put wsX9_place := goodIn_r _ [5] (by decide +kernel) (by decide +kernel)
set_option maxRecDepth 20000 in
theorem gX6_put_X9_place_n30 : GoodIn wsX6_put (wsX9_place) := ggX6_put_X9_place
theorem dX6_put_0 : decode cX6_put 0 = .ok (.aload_n 0, 1) := by decide +kernel
theorem dX6_put_1 : decode cX6_put 1 = .ok (.getfield 9, 3) := by decide +kernel
theorem dX6_put_4 : decode cX6_put 4 = .ok (.iload_n 1, 1) := by decide +kernel
theorem dX6_put_5 : decode cX6_put 5 = .ok (.iload_n 2, 1) := by decide +kernel
theorem dX6_put_6 : decode cX6_put 6 = .ok (.invokestatic 30, 3) := by decide +kernel
theorem dX6_put_9 : decode cX6_put 9 = .ok (.iload_n 3, 1) := by decide +kernel
theorem dX6_put_10 : decode cX6_put 10 = .ok (.iastore, 1) := by decide +kernel
theorem dX6_put_11 : decode cX6_put 11 = .ok (.aload_n 0, 1) := by decide +kernel
theorem dX6_put_12 : decode cX6_put 12 = .ok (.getfield 15, 3) := by decide +kernel
theorem dX6_put_15 : decode cX6_put 15 = .ok (.iload_n 1, 1) := by decide +kernel
theorem dX6_put_16 : decode cX6_put 16 = .ok (.iload_n 2, 1) := by decide +kernel
theorem dX6_put_17 : decode cX6_put 17 = .ok (.invokestatic 30, 3) := by decide +kernel
theorem dX6_put_20 : decode cX6_put 20 = .ok (.iload 4, 2) := by decide +kernel
theorem dX6_put_22 : decode cX6_put 22 = .ok (.iastore, 1) := by decide +kernel
theorem dX6_put_23 : decode cX6_put 23 = .ok (.return_, 1) := by decide +kernel
set_option maxRecDepth 20000 in
theorem ggX6_drop_X9_place : GoodIn wsX6_drop wsX9_place := goodIn_r _ [4] (by decide +kernel) (by decide +kernel)
set_option maxRecDepth 20000 in
theorem gX6_drop_X9_place_n30 : GoodIn wsX6_drop (wsX9_place) := ggX6_drop_X9_place
theorem dX6_drop_0 : decode cX6_drop 0 = .ok (.iconst 0, 1) := by decide +kernel
theorem dX6_drop_1 : decode cX6_drop 1 = .ok (.istore_n 2, 1) := by decide +kernel
theorem dX6_drop_2 : decode cX6_drop 2 = .ok (.iload_n 2, 1) := by decide +kernel
theorem dX6_drop_3 : decode cX6_drop 3 = .ok (.iconst 4, 1) := by decide +kernel
theorem dX6_drop_4 : decode cX6_drop 4 = .ok (.if_icmp .ge 20, 3) := by decide +kernel
theorem dX6_drop_7 : decode cX6_drop 7 = .ok (.aload_n 0, 1) := by decide +kernel
theorem dX6_drop_8 : decode cX6_drop 8 = .ok (.getfield 9, 3) := by decide +kernel
theorem dX6_drop_11 : decode cX6_drop 11 = .ok (.iload_n 1, 1) := by decide +kernel
theorem dX6_drop_12 : decode cX6_drop 12 = .ok (.iload_n 2, 1) := by decide +kernel
theorem dX6_drop_13 : decode cX6_drop 13 = .ok (.invokestatic 30, 3) := by decide +kernel
theorem dX6_drop_16 : decode cX6_drop 16 = .ok (.iconst (-1), 1) := by decide +kernel
theorem dX6_drop_17 : decode cX6_drop 17 = .ok (.iastore, 1) := by decide +kernel
theorem dX6_drop_18 : decode cX6_drop 18 = .ok (.iinc 2 1, 3) := by decide +kernel
theorem dX6_drop_21 : decode cX6_drop 21 = .ok (.goto (-19), 3) := by decide +kernel
theorem dX6_drop_24 : decode cX6_drop 24 = .ok (.return_, 1) := by decide +kernel
set_option maxRecDepth 20000 in
theorem ggX6_sumOf_X9_place : GoodIn wsX6_sumOf wsX9_place := goodIn_r _ [4] (by decide +kernel) (by decide +kernel)
set_option maxRecDepth 20000 in
theorem gX6_sumOf_X9_place_n30 : GoodIn wsX6_sumOf (wsX9_place) := ggX6_sumOf_X9_place
set_option maxRecDepth 20000 in
theorem ggX6_sumOf_X9_sumWith : GoodIn wsX6_sumOf wsX9_sumWith := goodIn_r _ [6, 7] (by decide +kernel) (by decide +kernel)
set_option maxRecDepth 20000 in
theorem gX6_sumOf_X9_sumWith_n65 : GoodIn wsX6_sumOf (wsX9_sumWith) := ggX6_sumOf_X9_sumWith
theorem dX6_sumOf_0 : decode cX6_sumOf 0 = .ok (.iconst 0, 1) := by decide +kernel
theorem dX6_sumOf_1 : decode cX6_sumOf 1 = .ok (.istore_n 3, 1) := by decide +kernel
theorem dX6_sumOf_2 : decode cX6_sumOf 2 = .ok (.iconst 0, 1) := by decide +kernel
theorem dX6_sumOf_3 : decode cX6_sumOf 3 = .ok (.istore 4, 2) := by decide +kernel
theorem dX6_sumOf_5 : decode cX6_sumOf 5 = .ok (.iload 4, 2) := by decide +kernel
theorem dX6_sumOf_7 : decode cX6_sumOf 7 = .ok (.iload_n 2, 1) := by decide +kernel
theorem dX6_sumOf_8 : decode cX6_sumOf 8 = .ok (.if_icmp .ge 25, 3) := by decide +kernel
theorem dX6_sumOf_11 : decode cX6_sumOf 11 = .ok (.iload_n 3, 1) := by decide +kernel
theorem dX6_sumOf_12 : decode cX6_sumOf 12 = .ok (.aload_n 0, 1) := by decide +kernel
theorem dX6_sumOf_13 : decode cX6_sumOf 13 = .ok (.getfield 15, 3) := by decide +kernel
theorem dX6_sumOf_16 : decode cX6_sumOf 16 = .ok (.iload_n 1, 1) := by decide +kernel
theorem dX6_sumOf_17 : decode cX6_sumOf 17 = .ok (.iload 4, 2) := by decide +kernel
theorem dX6_sumOf_19 : decode cX6_sumOf 19 = .ok (.invokestatic 30, 3) := by decide +kernel
theorem dX6_sumOf_22 : decode cX6_sumOf 22 = .ok (.iaload, 1) := by decide +kernel
theorem dX6_sumOf_23 : decode cX6_sumOf 23 = .ok (.invokestatic 65, 3) := by decide +kernel
theorem dX6_sumOf_26 : decode cX6_sumOf 26 = .ok (.istore_n 3, 1) := by decide +kernel
theorem dX6_sumOf_27 : decode cX6_sumOf 27 = .ok (.iinc 4 1, 3) := by decide +kernel
theorem dX6_sumOf_30 : decode cX6_sumOf 30 = .ok (.goto (-25), 3) := by decide +kernel
theorem dX6_sumOf_33 : decode cX6_sumOf 33 = .ok (.iload_n 3, 1) := by decide +kernel
theorem dX6_sumOf_34 : decode cX6_sumOf 34 = .ok (.ireturn, 1) := by decide +kernel
theorem dX7_init_0 : decode cX7_init 0 = .ok (.aload_n 0, 1) := by decide +kernel
theorem dX7_init_1 : decode cX7_init 1 = .ok (.invokespecial 3, 3) := by decide +kernel
theorem dX7_init_4 : decode cX7_init 4 = .ok (.aload_n 0, 1) := by decide +kernel
theorem dX7_init_5 : decode cX7_init 5 = .ok (.bipush 12, 2) := by decide +kernel
theorem dX7_init_7 : decode cX7_init 7 = .ok (.newarray .int, 2) := by decide +kernel
theorem dX7_init_9 : decode cX7_init 9 = .ok (.putfield 9, 3) := by decide +kernel
theorem dX7_init_12 : decode cX7_init 12 = .ok (.aload_n 0, 1) := by decide +kernel
theorem dX7_init_13 : decode cX7_init 13 = .ok (.bipush 12, 2) := by decide +kernel
theorem dX7_init_15 : decode cX7_init 15 = .ok (.newarray .int, 2) := by decide +kernel
theorem dX7_init_17 : decode cX7_init 17 = .ok (.putfield 15, 3) := by decide +kernel
theorem dX7_init_20 : decode cX7_init 20 = .ok (.aload_n 0, 1) := by decide +kernel
theorem dX7_init_21 : decode cX7_init 21 = .ok (.bipush 12, 2) := by decide +kernel
theorem dX7_init_23 : decode cX7_init 23 = .ok (.newarray .int, 2) := by decide +kernel
theorem dX7_init_25 : decode cX7_init 25 = .ok (.putfield 18, 3) := by decide +kernel
theorem dX7_init_28 : decode cX7_init 28 = .ok (.aload_n 0, 1) := by decide +kernel
theorem dX7_init_29 : decode cX7_init 29 = .ok (.bipush 12, 2) := by decide +kernel
theorem dX7_init_31 : decode cX7_init 31 = .ok (.newarray .int, 2) := by decide +kernel
theorem dX7_init_33 : decode cX7_init 33 = .ok (.putfield 21, 3) := by decide +kernel
theorem dX7_init_36 : decode cX7_init 36 = .ok (.aload_n 0, 1) := by decide +kernel
theorem dX7_init_37 : decode cX7_init 37 = .ok (.iconst (-1), 1) := by decide +kernel
theorem dX7_init_38 : decode cX7_init 38 = .ok (.putfield 24, 3) := by decide +kernel
theorem dX7_init_41 : decode cX7_init 41 = .ok (.aload_n 0, 1) := by decide +kernel
theorem dX7_init_42 : decode cX7_init 42 = .ok (.iconst (-1), 1) := by decide +kernel
theorem dX7_init_43 : decode cX7_init 43 = .ok (.putfield 28, 3) := by decide +kernel
theorem dX7_init_46 : decode cX7_init 46 = .ok (.return_, 1) := by decide +kernel
theorem dX7_forgetLate_0 : decode cX7_forgetLate 0 = .ok (.iconst 0, 1) := by decide +kernel
theorem dX7_forgetLate_1 : decode cX7_forgetLate 1 = .ok (.istore_n 1, 1) := by decide +kernel
theorem dX7_forgetLate_2 : decode cX7_forgetLate 2 = .ok (.iload_n 1, 1) := by decide +kernel
theorem dX7_forgetLate_3 : decode cX7_forgetLate 3 = .ok (.bipush 12, 2) := by decide +kernel
theorem dX7_forgetLate_5 : decode cX7_forgetLate 5 = .ok (.if_icmp .ge 23, 3) := by decide +kernel
theorem dX7_forgetLate_8 : decode cX7_forgetLate 8 = .ok (.aload_n 0, 1) := by decide +kernel
theorem dX7_forgetLate_9 : decode cX7_forgetLate 9 = .ok (.getfield 9, 3) := by decide +kernel
theorem dX7_forgetLate_12 : decode cX7_forgetLate 12 = .ok (.iload_n 1, 1) := by decide +kernel
theorem dX7_forgetLate_13 : decode cX7_forgetLate 13 = .ok (.iconst 0, 1) := by decide +kernel
theorem dX7_forgetLate_14 : decode cX7_forgetLate 14 = .ok (.iastore, 1) := by decide +kernel
theorem dX7_forgetLate_15 : decode cX7_forgetLate 15 = .ok (.aload_n 0, 1) := by decide +kernel
theorem dX7_forgetLate_16 : decode cX7_forgetLate 16 = .ok (.getfield 15, 3) := by decide +kernel
theorem dX7_forgetLate_19 : decode cX7_forgetLate 19 = .ok (.iload_n 1, 1) := by decide +kernel
theorem dX7_forgetLate_20 : decode cX7_forgetLate 20 = .ok (.iconst 0, 1) := by decide +kernel
theorem dX7_forgetLate_21 : decode cX7_forgetLate 21 = .ok (.iastore, 1) := by decide +kernel
theorem dX7_forgetLate_22 : decode cX7_forgetLate 22 = .ok (.iinc 1 1, 3) := by decide +kernel
theorem dX7_forgetLate_25 : decode cX7_forgetLate 25 = .ok (.goto (-23), 3) := by decide +kernel
theorem dX7_forgetLate_28 : decode cX7_forgetLate 28 = .ok (.return_, 1) := by decide +kernel
theorem dX8_init_0 : decode cX8_init 0 = .ok (.aload_n 0, 1) := by decide +kernel
theorem dX8_init_1 : decode cX8_init 1 = .ok (.invokespecial 1, 3) := by decide +kernel
theorem dX8_init_4 : decode cX8_init 4 = .ok (.aload_n 0, 1) := by decide +kernel
theorem dX8_init_5 : decode cX8_init 5 = .ok (.iconst 1, 1) := by decide +kernel
theorem dX8_init_6 : decode cX8_init 6 = .ok (.putfield 7, 3) := by decide +kernel
theorem dX8_init_9 : decode cX8_init 9 = .ok (.aload_n 0, 1) := by decide +kernel
theorem dX8_init_10 : decode cX8_init 10 = .ok (.iconst 1, 1) := by decide +kernel
theorem dX8_init_11 : decode cX8_init 11 = .ok (.putfield 13, 3) := by decide +kernel
theorem dX8_init_14 : decode cX8_init 14 = .ok (.aload_n 0, 1) := by decide +kernel
theorem dX8_init_15 : decode cX8_init 15 = .ok (.iconst 0, 1) := by decide +kernel
theorem dX8_init_16 : decode cX8_init 16 = .ok (.putfield 16, 3) := by decide +kernel
theorem dX8_init_19 : decode cX8_init 19 = .ok (.return_, 1) := by decide +kernel
theorem dX8_become_0 : decode cX8_become 0 = .ok (.aload_n 0, 1) := by decide +kernel
theorem dX8_become_1 : decode cX8_become 1 = .ok (.iload_n 1, 1) := by decide +kernel
theorem dX8_become_2 : decode cX8_become 2 = .ok (.putfield 7, 3) := by decide +kernel
theorem dX8_become_5 : decode cX8_become 5 = .ok (.aload_n 0, 1) := by decide +kernel
theorem dX8_become_6 : decode cX8_become 6 = .ok (.iload_n 2, 1) := by decide +kernel
theorem dX8_become_7 : decode cX8_become 7 = .ok (.putfield 13, 3) := by decide +kernel
theorem dX8_become_10 : decode cX8_become 10 = .ok (.aload_n 0, 1) := by decide +kernel
theorem dX8_become_11 : decode cX8_become 11 = .ok (.iload_n 3, 1) := by decide +kernel
theorem dX8_become_12 : decode cX8_become 12 = .ok (.putfield 16, 3) := by decide +kernel
theorem dX8_become_15 : decode cX8_become 15 = .ok (.return_, 1) := by decide +kernel
theorem dX8_isPiece_0 : decode cX8_isPiece 0 = .ok (.iload_n 1, 1) := by decide +kernel
theorem dX8_isPiece_1 : decode cX8_isPiece 1 = .ok (.ifCond .lt 15, 3) := by decide +kernel
theorem dX8_isPiece_4 : decode cX8_isPiece 4 = .ok (.iload_n 1, 1) := by decide +kernel
theorem dX8_isPiece_5 : decode cX8_isPiece 5 = .ok (.aload_n 0, 1) := by decide +kernel
theorem dX8_isPiece_6 : decode cX8_isPiece 6 = .ok (.getfield 7, 3) := by decide +kernel
theorem dX8_isPiece_9 : decode cX8_isPiece 9 = .ok (.if_icmp .ge 7, 3) := by decide +kernel
theorem dX8_isPiece_12 : decode cX8_isPiece 12 = .ok (.iconst 1, 1) := by decide +kernel
theorem dX8_isPiece_13 : decode cX8_isPiece 13 = .ok (.goto 4, 3) := by decide +kernel
theorem dX8_isPiece_16 : decode cX8_isPiece 16 = .ok (.iconst 0, 1) := by decide +kernel
theorem dX8_isPiece_17 : decode cX8_isPiece 17 = .ok (.ireturn, 1) := by decide +kernel
set_option maxRecDepth 20000 in
theorem ggX8_isBlock_X8_isPiece : GoodIn wsX8_isBlock wsX8_isPiece := goodIn_r _ [6, 7, 8, 9, 10] (by decide +kernel) (by decide +kernel)
set_option maxRecDepth 20000 in
theorem gX8_isBlock_X8_isPiece : GoodIn wsX8_isBlock (wsV RX8 19 RX8 yX8_isPiece wsX8_isPiece) := goodIn_app (goodIn_of _ (by decide +kernel)) ggX8_isBlock_X8_isPiece
theorem dX8_isBlock_0 : decode cX8_isBlock 0 = .ok (.aload_n 0, 1) := by decide +kernel
theorem dX8_isBlock_1 : decode cX8_isBlock 1 = .ok (.iload_n 1, 1) := by decide +kernel
theorem dX8_isBlock_2 : decode cX8_isBlock 2 = .ok (.invokevirtual 19, 3) := by decide +kernel
theorem dX8_isBlock_5 : decode cX8_isBlock 5 = .ok (.ifCond .eq 19, 3) := by decide +kernel
theorem dX8_isBlock_8 : decode cX8_isBlock 8 = .ok (.iload_n 2, 1) := by decide +kernel
theorem dX8_isBlock_9 : decode cX8_isBlock 9 = .ok (.ifCond .lt 15, 3) := by decide +kernel
theorem dX8_isBlock_12 : decode cX8_isBlock 12 = .ok (.iload_n 2, 1) := by decide +kernel
theorem dX8_isBlock_13 : decode cX8_isBlock 13 = .ok (.aload_n 0, 1) := by decide +kernel
theorem dX8_isBlock_14 : decode cX8_isBlock 14 = .ok (.getfield 13, 3) := by decide +kernel
theorem dX8_isBlock_17 : decode cX8_isBlock 17 = .ok (.if_icmp .ge 7, 3) := by decide +kernel
theorem dX8_isBlock_20 : decode cX8_isBlock 20 = .ok (.iconst 1, 1) := by decide +kernel
theorem dX8_isBlock_21 : decode cX8_isBlock 21 = .ok (.goto 4, 3) := by decide +kernel
theorem dX8_isBlock_24 : decode cX8_isBlock 24 = .ok (.iconst 0, 1) := by decide +kernel
theorem dX8_isBlock_25 : decode cX8_isBlock 25 = .ok (.ireturn, 1) := by decide +kernel
theorem dX8_allPieces_0 : decode cX8_allPieces 0 = .ok (.iconst 1, 1) := by decide +kernel
theorem dX8_allPieces_1 : decode cX8_allPieces 1 = .ok (.aload_n 0, 1) := by decide +kernel
theorem dX8_allPieces_2 : decode cX8_allPieces 2 = .ok (.getfield 7, 3) := by decide +kernel
theorem dX8_allPieces_5 : decode cX8_allPieces 5 = .ok (.ishl, 1) := by decide +kernel
theorem dX8_allPieces_6 : decode cX8_allPieces 6 = .ok (.iconst 1, 1) := by decide +kernel
theorem dX8_allPieces_7 : decode cX8_allPieces 7 = .ok (.isub, 1) := by decide +kernel
theorem dX8_allPieces_8 : decode cX8_allPieces 8 = .ok (.ireturn, 1) := by decide +kernel
theorem dX8_valueOf_0 : decode cX8_valueOf 0 = .ok (.aload_n 0, 1) := by decide +kernel
theorem dX8_valueOf_1 : decode cX8_valueOf 1 = .ok (.getfield 16, 3) := by decide +kernel
theorem dX8_valueOf_4 : decode cX8_valueOf 4 = .ok (.iconst 4, 1) := by decide +kernel
theorem dX8_valueOf_5 : decode cX8_valueOf 5 = .ok (.iload_n 1, 1) := by decide +kernel
theorem dX8_valueOf_6 : decode cX8_valueOf 6 = .ok (.imul, 1) := by decide +kernel
theorem dX8_valueOf_7 : decode cX8_valueOf 7 = .ok (.iadd, 1) := by decide +kernel
theorem dX8_valueOf_8 : decode cX8_valueOf 8 = .ok (.iload_n 2, 1) := by decide +kernel
theorem dX8_valueOf_9 : decode cX8_valueOf 9 = .ok (.iadd, 1) := by decide +kernel
theorem dX8_valueOf_10 : decode cX8_valueOf 10 = .ok (.istore_n 3, 1) := by decide +kernel
theorem dX8_valueOf_11 : decode cX8_valueOf 11 = .ok (.iload_n 3, 1) := by decide +kernel
theorem dX8_valueOf_12 : decode cX8_valueOf 12 = .ok (.ldc 23, 2) := by decide +kernel
theorem dX8_valueOf_14 : decode cX8_valueOf 14 = .ok (.imul, 1) := by decide +kernel
theorem dX8_valueOf_15 : decode cX8_valueOf 15 = .ok (.sipush 12345, 3) := by decide +kernel
theorem dX8_valueOf_18 : decode cX8_valueOf 18 = .ok (.iadd, 1) := by decide +kernel
theorem dX8_valueOf_19 : decode cX8_valueOf 19 = .ok (.istore_n 3, 1) := by decide +kernel
theorem dX8_valueOf_20 : decode cX8_valueOf 20 = .ok (.iload_n 3, 1) := by decide +kernel
theorem dX8_valueOf_21 : decode cX8_valueOf 21 = .ok (.iload_n 3, 1) := by decide +kernel
theorem dX8_valueOf_22 : decode cX8_valueOf 22 = .ok (.bipush 15, 2) := by decide +kernel
theorem dX8_valueOf_24 : decode cX8_valueOf 24 = .ok (.iushr, 1) := by decide +kernel
theorem dX8_valueOf_25 : decode cX8_valueOf 25 = .ok (.ixor, 1) := by decide +kernel
theorem dX8_valueOf_26 : decode cX8_valueOf 26 = .ok (.ireturn, 1) := by decide +kernel
set_option maxRecDepth 20000 in
theorem ggX8_sumOf_X8_valueOf : GoodIn wsX8_sumOf wsX8_valueOf := goodIn_r _ [6, 7, 8, 13, 14, 15] (by decide +kernel) (by decide +kernel)
set_option maxRecDepth 20000 in
theorem gX8_sumOf_X8_valueOf : GoodIn wsX8_sumOf (wsV RX8 24 RX8 yX8_valueOf wsX8_valueOf) := goodIn_app (goodIn_of _ (by decide +kernel)) ggX8_sumOf_X8_valueOf
set_option maxRecDepth 20000 in
theorem ggX8_sumOf_X9_sumWith : GoodIn wsX8_sumOf wsX9_sumWith := goodIn_r _ [11, 12] (by decide +kernel) (by decide +kernel)
set_option maxRecDepth 20000 in
theorem gX8_sumOf_X9_sumWith_n28 : GoodIn wsX8_sumOf (wsX9_sumWith) := ggX8_sumOf_X9_sumWith
theorem dX8_sumOf_0 : decode cX8_sumOf 0 = .ok (.iconst 0, 1) := by decide +kernel
theorem dX8_sumOf_1 : decode cX8_sumOf 1 = .ok (.istore_n 2, 1) := by decide +kernel
theorem dX8_sumOf_2 : decode cX8_sumOf 2 = .ok (.iconst 0, 1) := by decide +kernel
theorem dX8_sumOf_3 : decode cX8_sumOf 3 = .ok (.istore_n 3, 1) := by decide +kernel
theorem dX8_sumOf_4 : decode cX8_sumOf 4 = .ok (.iload_n 3, 1) := by decide +kernel
theorem dX8_sumOf_5 : decode cX8_sumOf 5 = .ok (.aload_n 0, 1) := by decide +kernel
theorem dX8_sumOf_6 : decode cX8_sumOf 6 = .ok (.getfield 13, 3) := by decide +kernel
theorem dX8_sumOf_9 : decode cX8_sumOf 9 = .ok (.if_icmp .ge 20, 3) := by decide +kernel
theorem dX8_sumOf_12 : decode cX8_sumOf 12 = .ok (.iload_n 2, 1) := by decide +kernel
theorem dX8_sumOf_13 : decode cX8_sumOf 13 = .ok (.aload_n 0, 1) := by decide +kernel
theorem dX8_sumOf_14 : decode cX8_sumOf 14 = .ok (.iload_n 1, 1) := by decide +kernel
theorem dX8_sumOf_15 : decode cX8_sumOf 15 = .ok (.iload_n 3, 1) := by decide +kernel
theorem dX8_sumOf_16 : decode cX8_sumOf 16 = .ok (.invokevirtual 24, 3) := by decide +kernel
theorem dX8_sumOf_19 : decode cX8_sumOf 19 = .ok (.invokestatic 28, 3) := by decide +kernel
theorem dX8_sumOf_22 : decode cX8_sumOf 22 = .ok (.istore_n 2, 1) := by decide +kernel
theorem dX8_sumOf_23 : decode cX8_sumOf 23 = .ok (.iinc 3 1, 3) := by decide +kernel
theorem dX8_sumOf_26 : decode cX8_sumOf 26 = .ok (.goto (-22), 3) := by decide +kernel
theorem dX8_sumOf_29 : decode cX8_sumOf 29 = .ok (.iload_n 2, 1) := by decide +kernel
theorem dX8_sumOf_30 : decode cX8_sumOf 30 = .ok (.ireturn, 1) := by decide +kernel
set_option maxRecDepth 20000 in
theorem ggX9_init_X2_init : GoodIn wsX9_init wsX2_init := goodIn_r _ [22, 23, 2, 3, 24, 25, 26, 27, 28, 29, 30, 31, 32, 33, 34, 35, 36, 37, 38, 39, 40, 41, 42, 43, 44, 45, 46, 47, 48, 49, 50, 51, 52, 53, 54, 55, 56, 57, 58, 59, 60, 61, 62, 63, 64, 65, 66, 67, 68, 69, 70, 71, 72, 73, 74, 75, 76, 77, 78, 79, 80, 81, 82, 83, 84, 115, 116, 117, 100, 101, 102, 103, 104, 105, 106, 107, 118, 119, 120, 121, 122, 123, 124, 125, 126, 127, 128, 129, 130, 131, 132, 133, 134, 135, 136, 137, 138, 139, 140, 141, 142, 143, 144, 145, 146, 147, 148, 149, 150, 151, 152, 153] (by decide +kernel) (by decide +kernel)
set_option maxRecDepth 20000 in
theorem gX9_init_X2_init : GoodIn wsX9_init (wsX2_init) := ggX9_init_X2_init
set_option maxRecDepth 20000 in
theorem ggX9_init_X0_init : GoodIn wsX9_init wsX0_init := goodIn_r _ [87, 88, 2, 3, 89, 112] (by decide +kernel) (by decide +kernel)
set_option maxRecDepth 20000 in
theorem gX9_init_X0_init : GoodIn wsX9_init (wsX0_init) := ggX9_init_X0_init
set_option maxRecDepth 20000 in
theorem ggX9_init_X4_init : GoodIn wsX9_init wsX4_init := goodIn_r _ [92, 93, 2, 3, 94, 113] (by decide +kernel) (by decide +kernel)
set_option maxRecDepth 20000 in
theorem gX9_init_X4_init : GoodIn wsX9_init (wsX4_init) := ggX9_init_X4_init
set_option maxRecDepth 20000 in
theorem ggX9_init_X1_init : GoodIn wsX9_init wsX1_init := goodIn_r _ [97, 98, 2, 3, 99, 114] (by decide +kernel) (by decide +kernel)
set_option maxRecDepth 20000 in
theorem gX9_init_X1_init : GoodIn wsX9_init (wsX1_init) := ggX9_init_X1_init
theorem dX9_init_0 : decode cX9_init 0 = .ok (.aload_n 0, 1) := by decide +kernel
theorem dX9_init_1 : decode cX9_init 1 = .ok (.invokespecial 1, 3) := by decide +kernel
theorem dX9_init_4 : decode cX9_init 4 = .ok (.aload_n 0, 1) := by decide +kernel
theorem dX9_init_5 : decode cX9_init 5 = .ok (.new 7, 3) := by decide +kernel
theorem dX9_init_8 : decode cX9_init 8 = .ok (.dup, 1) := by decide +kernel
theorem dX9_init_9 : decode cX9_init 9 = .ok (.invokespecial 9, 3) := by decide +kernel
theorem dX9_init_12 : decode cX9_init 12 = .ok (.putfield 10, 3) := by decide +kernel
theorem dX9_init_15 : decode cX9_init 15 = .ok (.aload_n 0, 1) := by decide +kernel
theorem dX9_init_16 : decode cX9_init 16 = .ok (.new 16, 3) := by decide +kernel
theorem dX9_init_19 : decode cX9_init 19 = .ok (.dup, 1) := by decide +kernel
theorem dX9_init_20 : decode cX9_init 20 = .ok (.aload_n 0, 1) := by decide +kernel
theorem dX9_init_21 : decode cX9_init 21 = .ok (.getfield 10, 3) := by decide +kernel
theorem dX9_init_24 : decode cX9_init 24 = .ok (.invokespecial 18, 3) := by decide +kernel
theorem dX9_init_27 : decode cX9_init 27 = .ok (.putfield 21, 3) := by decide +kernel
theorem dX9_init_30 : decode cX9_init 30 = .ok (.aload_n 0, 1) := by decide +kernel
theorem dX9_init_31 : decode cX9_init 31 = .ok (.new 25, 3) := by decide +kernel
theorem dX9_init_34 : decode cX9_init 34 = .ok (.dup, 1) := by decide +kernel
theorem dX9_init_35 : decode cX9_init 35 = .ok (.aload_n 0, 1) := by decide +kernel
theorem dX9_init_36 : decode cX9_init 36 = .ok (.getfield 10, 3) := by decide +kernel
theorem dX9_init_39 : decode cX9_init 39 = .ok (.invokespecial 27, 3) := by decide +kernel
theorem dX9_init_42 : decode cX9_init 42 = .ok (.putfield 28, 3) := by decide +kernel
theorem dX9_init_45 : decode cX9_init 45 = .ok (.aload_n 0, 1) := by decide +kernel
theorem dX9_init_46 : decode cX9_init 46 = .ok (.new 32, 3) := by decide +kernel
theorem dX9_init_49 : decode cX9_init 49 = .ok (.dup, 1) := by decide +kernel
theorem dX9_init_50 : decode cX9_init 50 = .ok (.aload_n 0, 1) := by decide +kernel
theorem dX9_init_51 : decode cX9_init 51 = .ok (.getfield 10, 3) := by decide +kernel
theorem dX9_init_54 : decode cX9_init 54 = .ok (.invokespecial 34, 3) := by decide +kernel
theorem dX9_init_57 : decode cX9_init 57 = .ok (.putfield 35, 3) := by decide +kernel
theorem dX9_init_60 : decode cX9_init 60 = .ok (.return_, 1) := by decide +kernel
set_option maxRecDepth 20000 in
theorem ggX9_file_X9_isWithin : GoodIn wsX9_file wsX9_isWithin := goodIn_r _ [7] (by decide +kernel) (by decide +kernel)
set_option maxRecDepth 20000 in
theorem gX9_file_X9_isWithin : GoodIn wsX9_file (va_wsS RX9 43 yX9_isWithin wsX9_isWithin) := goodIn_app (goodIn_of _ (by decide +kernel)) ggX9_file_X9_isWithin
set_option maxRecDepth 20000 in
theorem ggX9_file_X8_become : GoodIn wsX9_file wsX8_become := goodIn_r _ [12, 13, 14, 15, 28, 29, 30] (by decide +kernel) (by decide +kernel)
set_option maxRecDepth 20000 in
theorem gX9_file_X8_become : GoodIn wsX9_file (wsV RX9 51 RX8 yX8_become wsX8_become) := goodIn_app (goodIn_of _ (by decide +kernel)) ggX9_file_X8_become
theorem dX9_file_0 : decode cX9_file 0 = .ok (.aload_n 0, 1) := by decide +kernel
theorem dX9_file_1 : decode cX9_file 1 = .ok (.getfield 10, 3) := by decide +kernel
theorem dX9_file_4 : decode cX9_file 4 = .ok (.getfield 39, 3) := by decide +kernel
theorem dX9_file_7 : decode cX9_file 7 = .ok (.ifCond .gt 22, 3) := by decide +kernel
theorem dX9_file_10 : decode cX9_file 10 = .ok (.iload_n 1, 1) := by decide +kernel
theorem dX9_file_11 : decode cX9_file 11 = .ok (.iconst 1, 1) := by decide +kernel
theorem dX9_file_12 : decode cX9_file 12 = .ok (.bipush 24, 2) := by decide +kernel
theorem dX9_file_14 : decode cX9_file 14 = .ok (.invokestatic 43, 3) := by decide +kernel
theorem dX9_file_17 : decode cX9_file 17 = .ok (.ifCond .eq 12, 3) := by decide +kernel
theorem dX9_file_20 : decode cX9_file 20 = .ok (.iload_n 2, 1) := by decide +kernel
theorem dX9_file_21 : decode cX9_file 21 = .ok (.iconst 1, 1) := by decide +kernel
theorem dX9_file_22 : decode cX9_file 22 = .ok (.iconst 4, 1) := by decide +kernel
theorem dX9_file_23 : decode cX9_file 23 = .ok (.invokestatic 43, 3) := by decide +kernel
theorem dX9_file_26 : decode cX9_file 26 = .ok (.ifCond .ne 5, 3) := by decide +kernel
theorem dX9_file_29 : decode cX9_file 29 = .ok (.iconst 0, 1) := by decide +kernel
theorem dX9_file_30 : decode cX9_file 30 = .ok (.ireturn, 1) := by decide +kernel
theorem dX9_file_31 : decode cX9_file 31 = .ok (.aload_n 0, 1) := by decide +kernel
theorem dX9_file_32 : decode cX9_file 32 = .ok (.getfield 10, 3) := by decide +kernel
theorem dX9_file_35 : decode cX9_file 35 = .ok (.getfield 47, 3) := by decide +kernel
theorem dX9_file_38 : decode cX9_file 38 = .ok (.iload_n 1, 1) := by decide +kernel
theorem dX9_file_39 : decode cX9_file 39 = .ok (.iload_n 2, 1) := by decide +kernel
theorem dX9_file_40 : decode cX9_file 40 = .ok (.iload_n 3, 1) := by decide +kernel
theorem dX9_file_41 : decode cX9_file 41 = .ok (.invokevirtual 51, 3) := by decide +kernel
theorem dX9_file_44 : decode cX9_file 44 = .ok (.iconst 1, 1) := by decide +kernel
theorem dX9_file_45 : decode cX9_file 45 = .ok (.ireturn, 1) := by decide +kernel
set_option maxRecDepth 20000 in
theorem ggX9_value_X8_isBlock : GoodIn wsX9_value wsX8_isBlock := goodIn_r _ [7, 8, 9, 10, 11, 6, 12, 13, 32, 33, 34] (by decide +kernel) (by decide +kernel)
set_option maxRecDepth 20000 in
theorem gX9_value_X8_isBlock : GoodIn wsX9_value (wsV RX9 57 RX8 yX8_isBlock wsX8_isBlock) := goodIn_app (goodIn_of _ (by decide +kernel)) ggX9_value_X8_isBlock
set_option maxRecDepth 20000 in
theorem ggX9_value_X8_valueOf : GoodIn wsX9_value wsX8_valueOf := goodIn_r _ [17, 18, 19, 32, 33, 34] (by decide +kernel) (by decide +kernel)
set_option maxRecDepth 20000 in
theorem gX9_value_X8_valueOf : GoodIn wsX9_value (wsV RX9 61 RX8 yX8_valueOf wsX8_valueOf) := goodIn_app (goodIn_of _ (by decide +kernel)) ggX9_value_X8_valueOf
theorem dX9_value_0 : decode cX9_value 0 = .ok (.aload_n 0, 1) := by decide +kernel
theorem dX9_value_1 : decode cX9_value 1 = .ok (.getfield 10, 3) := by decide +kernel
theorem dX9_value_4 : decode cX9_value 4 = .ok (.getfield 47, 3) := by decide +kernel
theorem dX9_value_7 : decode cX9_value 7 = .ok (.iload_n 1, 1) := by decide +kernel
theorem dX9_value_8 : decode cX9_value 8 = .ok (.iload_n 2, 1) := by decide +kernel
theorem dX9_value_9 : decode cX9_value 9 = .ok (.invokevirtual 57, 3) := by decide +kernel
theorem dX9_value_12 : decode cX9_value 12 = .ok (.ifCond .eq 18, 3) := by decide +kernel
theorem dX9_value_15 : decode cX9_value 15 = .ok (.aload_n 0, 1) := by decide +kernel
theorem dX9_value_16 : decode cX9_value 16 = .ok (.getfield 10, 3) := by decide +kernel
theorem dX9_value_19 : decode cX9_value 19 = .ok (.getfield 47, 3) := by decide +kernel
theorem dX9_value_22 : decode cX9_value 22 = .ok (.iload_n 1, 1) := by decide +kernel
theorem dX9_value_23 : decode cX9_value 23 = .ok (.iload_n 2, 1) := by decide +kernel
theorem dX9_value_24 : decode cX9_value 24 = .ok (.invokevirtual 61, 3) := by decide +kernel
theorem dX9_value_27 : decode cX9_value 27 = .ok (.goto 4, 3) := by decide +kernel
theorem dX9_value_30 : decode cX9_value 30 = .ok (.iconst 0, 1) := by decide +kernel
theorem dX9_value_31 : decode cX9_value 31 = .ok (.ireturn, 1) := by decide +kernel
set_option maxRecDepth 20000 in
theorem ggX9_sum_X8_isPiece : GoodIn wsX9_sum wsX8_isPiece := goodIn_r _ [7, 8, 36, 37, 38] (by decide +kernel) (by decide +kernel)
set_option maxRecDepth 20000 in
theorem gX9_sum_X8_isPiece : GoodIn wsX9_sum (wsV RX9 65 RX8 yX8_isPiece wsX8_isPiece) := goodIn_app (goodIn_of _ (by decide +kernel)) ggX9_sum_X8_isPiece
set_option maxRecDepth 20000 in
theorem ggX9_sum_X8_sumOf : GoodIn wsX9_sum wsX8_sumOf := goodIn_r _ [12, 13, 14, 15, 16, 6, 17, 18, 19, 20, 21, 22, 23, 36, 37, 38] (by decide +kernel) (by decide +kernel)
set_option maxRecDepth 20000 in
theorem gX9_sum_X8_sumOf : GoodIn wsX9_sum (wsV RX9 69 RX8 yX8_sumOf wsX8_sumOf) := goodIn_app (goodIn_of _ (by decide +kernel)) ggX9_sum_X8_sumOf
theorem dX9_sum_0 : decode cX9_sum 0 = .ok (.aload_n 0, 1) := by decide +kernel
theorem dX9_sum_1 : decode cX9_sum 1 = .ok (.getfield 10, 3) := by decide +kernel
theorem dX9_sum_4 : decode cX9_sum 4 = .ok (.getfield 47, 3) := by decide +kernel
theorem dX9_sum_7 : decode cX9_sum 7 = .ok (.iload_n 1, 1) := by decide +kernel
theorem dX9_sum_8 : decode cX9_sum 8 = .ok (.invokevirtual 65, 3) := by decide +kernel
theorem dX9_sum_11 : decode cX9_sum 11 = .ok (.ifCond .eq 17, 3) := by decide +kernel
theorem dX9_sum_14 : decode cX9_sum 14 = .ok (.aload_n 0, 1) := by decide +kernel
theorem dX9_sum_15 : decode cX9_sum 15 = .ok (.getfield 10, 3) := by decide +kernel
theorem dX9_sum_18 : decode cX9_sum 18 = .ok (.getfield 47, 3) := by decide +kernel
theorem dX9_sum_21 : decode cX9_sum 21 = .ok (.iload_n 1, 1) := by decide +kernel
theorem dX9_sum_22 : decode cX9_sum 22 = .ok (.invokevirtual 69, 3) := by decide +kernel
theorem dX9_sum_25 : decode cX9_sum 25 = .ok (.goto 4, 3) := by decide +kernel
theorem dX9_sum_28 : decode cX9_sum 28 = .ok (.iconst 0, 1) := by decide +kernel
theorem dX9_sum_29 : decode cX9_sum 29 = .ok (.ireturn, 1) := by decide +kernel
set_option maxRecDepth 20000 in
theorem ggX9_peer_X9_isWithin : GoodIn wsX9_peer wsX9_isWithin := goodIn_r _ [6] (by decide +kernel) (by decide +kernel)
set_option maxRecDepth 20000 in
theorem gX9_peer_X9_isWithin : GoodIn wsX9_peer (va_wsS RX9 43 yX9_isWithin wsX9_isWithin) := goodIn_app (goodIn_of _ (by decide +kernel)) ggX9_peer_X9_isWithin
set_option maxRecDepth 20000 in
theorem ggX9_peer_X2_takeIn : GoodIn wsX9_peer wsX2_takeIn := goodIn_r _ [11, 12, 13, 14, 15, 16, 17, 18, 19, 20, 21, 22, 23, 24, 25, 26, 27, 28, 29, 30, 5, 31, 32, 33, 34, 35, 36, 37, 38, 39, 40, 41, 42, 43, 48, 49, 50, 51, 52, 53, 54, 55, 56, 57, 58, 59, 60, 61, 62, 63, 64, 65, 66, 67, 68, 69, 70, 71, 72, 73, 74, 75, 76, 77] (by decide +kernel) (by decide +kernel)
set_option maxRecDepth 20000 in
theorem gX9_peer_X2_takeIn : GoodIn wsX9_peer (wsV RX9 73 RX2 yX2_takeIn wsX2_takeIn) := goodIn_app (goodIn_of _ (by decide +kernel)) ggX9_peer_X2_takeIn
theorem dX9_peer_0 : decode cX9_peer 0 = .ok (.iload_n 1, 1) := by decide +kernel
theorem dX9_peer_1 : decode cX9_peer 1 = .ok (.iconst 0, 1) := by decide +kernel
theorem dX9_peer_2 : decode cX9_peer 2 = .ok (.iconst 5, 1) := by decide +kernel
theorem dX9_peer_3 : decode cX9_peer 3 = .ok (.invokestatic 43, 3) := by decide +kernel
theorem dX9_peer_6 : decode cX9_peer 6 = .ok (.ifCond .eq 27, 3) := by decide +kernel
theorem dX9_peer_9 : decode cX9_peer 9 = .ok (.iload_n 2, 1) := by decide +kernel
theorem dX9_peer_10 : decode cX9_peer 10 = .ok (.iconst 1, 1) := by decide +kernel
theorem dX9_peer_11 : decode cX9_peer 11 = .ok (.bipush 8, 2) := by decide +kernel
theorem dX9_peer_13 : decode cX9_peer 13 = .ok (.invokestatic 43, 3) := by decide +kernel
theorem dX9_peer_16 : decode cX9_peer 16 = .ok (.ifCond .eq 17, 3) := by decide +kernel
theorem dX9_peer_19 : decode cX9_peer 19 = .ok (.iload_n 3, 1) := by decide +kernel
theorem dX9_peer_20 : decode cX9_peer 20 = .ok (.iconst 1, 1) := by decide +kernel
theorem dX9_peer_21 : decode cX9_peer 21 = .ok (.bipush 8, 2) := by decide +kernel
theorem dX9_peer_23 : decode cX9_peer 23 = .ok (.invokestatic 43, 3) := by decide +kernel
theorem dX9_peer_26 : decode cX9_peer 26 = .ok (.ifCond .eq 7, 3) := by decide +kernel
theorem dX9_peer_29 : decode cX9_peer 29 = .ok (.iconst 1, 1) := by decide +kernel
theorem dX9_peer_30 : decode cX9_peer 30 = .ok (.goto 4, 3) := by decide +kernel
theorem dX9_peer_33 : decode cX9_peer 33 = .ok (.iconst 0, 1) := by decide +kernel
theorem dX9_peer_34 : decode cX9_peer 34 = .ok (.istore 4, 2) := by decide +kernel
theorem dX9_peer_36 : decode cX9_peer 36 = .ok (.iload 4, 2) := by decide +kernel
theorem dX9_peer_38 : decode cX9_peer 38 = .ok (.ifCond .eq 15, 3) := by decide +kernel
theorem dX9_peer_41 : decode cX9_peer 41 = .ok (.aload_n 0, 1) := by decide +kernel
theorem dX9_peer_42 : decode cX9_peer 42 = .ok (.getfield 10, 3) := by decide +kernel
theorem dX9_peer_45 : decode cX9_peer 45 = .ok (.getfield 39, 3) := by decide +kernel
theorem dX9_peer_48 : decode cX9_peer 48 = .ok (.bipush 12, 2) := by decide +kernel
theorem dX9_peer_50 : decode cX9_peer 50 = .ok (.if_icmp .lt 5, 3) := by decide +kernel
theorem dX9_peer_53 : decode cX9_peer 53 = .ok (.iconst (-1), 1) := by decide +kernel
theorem dX9_peer_54 : decode cX9_peer 54 = .ok (.ireturn, 1) := by decide +kernel
theorem dX9_peer_55 : decode cX9_peer 55 = .ok (.aload_n 0, 1) := by decide +kernel
theorem dX9_peer_56 : decode cX9_peer 56 = .ok (.getfield 10, 3) := by decide +kernel
theorem dX9_peer_59 : decode cX9_peer 59 = .ok (.iload_n 1, 1) := by decide +kernel
theorem dX9_peer_60 : decode cX9_peer 60 = .ok (.iload_n 2, 1) := by decide +kernel
theorem dX9_peer_61 : decode cX9_peer 61 = .ok (.iload_n 3, 1) := by decide +kernel
theorem dX9_peer_62 : decode cX9_peer 62 = .ok (.invokevirtual 73, 3) := by decide +kernel
theorem dX9_peer_65 : decode cX9_peer 65 = .ok (.ireturn, 1) := by decide +kernel
set_option maxRecDepth 20000 in
theorem ggX9_often_X2_isMember : GoodIn wsX9_often wsX2_isMember := goodIn_r _ [9, 10, 19, 20, 21, 22, 23, 24, 25, 26] (by decide +kernel) (by decide +kernel)
set_option maxRecDepth 20000 in
theorem gX9_often_X2_isMember : GoodIn wsX9_often (wsV RX9 77 RX2 yX2_isMember wsX2_isMember) := goodIn_app (goodIn_of _ (by decide +kernel)) ggX9_often_X2_isMember
set_option maxRecDepth 20000 in
theorem ggX9_often_X9_isWithin : GoodIn wsX9_often wsX9_isWithin := goodIn_r _ [14] (by decide +kernel) (by decide +kernel)
set_option maxRecDepth 20000 in
theorem gX9_often_X9_isWithin : GoodIn wsX9_often (va_wsS RX9 43 yX9_isWithin wsX9_isWithin) := goodIn_app (goodIn_of _ (by decide +kernel)) ggX9_often_X9_isWithin
theorem dX9_often_0 : decode cX9_often 0 = .ok (.aload_n 0, 1) := by decide +kernel
theorem dX9_often_1 : decode cX9_often 1 = .ok (.getfield 10, 3) := by decide +kernel
theorem dX9_often_4 : decode cX9_often 4 = .ok (.iload_n 1, 1) := by decide +kernel
theorem dX9_often_5 : decode cX9_often 5 = .ok (.invokevirtual 77, 3) := by decide +kernel
theorem dX9_often_8 : decode cX9_often 8 = .ok (.ifCond .eq 29, 3) := by decide +kernel
theorem dX9_often_11 : decode cX9_often 11 = .ok (.iload_n 2, 1) := by decide +kernel
theorem dX9_often_12 : decode cX9_often 12 = .ok (.iconst 1, 1) := by decide +kernel
theorem dX9_often_13 : decode cX9_often 13 = .ok (.bipush 100, 2) := by decide +kernel
theorem dX9_often_15 : decode cX9_often 15 = .ok (.invokestatic 43, 3) := by decide +kernel
theorem dX9_often_18 : decode cX9_often 18 = .ok (.ifCond .eq 19, 3) := by decide +kernel
theorem dX9_often_21 : decode cX9_often 21 = .ok (.aload_n 0, 1) := by decide +kernel
theorem dX9_often_22 : decode cX9_often 22 = .ok (.getfield 10, 3) := by decide +kernel
theorem dX9_often_25 : decode cX9_often 25 = .ok (.getfield 80, 3) := by decide +kernel
theorem dX9_often_28 : decode cX9_often 28 = .ok (.iload_n 1, 1) := by decide +kernel
theorem dX9_often_29 : decode cX9_often 29 = .ok (.aaload, 1) := by decide +kernel
theorem dX9_often_30 : decode cX9_often 30 = .ok (.getfield 84, 3) := by decide +kernel
theorem dX9_often_33 : decode cX9_often 33 = .ok (.iconst 3, 1) := by decide +kernel
theorem dX9_often_34 : decode cX9_often 34 = .ok (.if_icmp .eq 5, 3) := by decide +kernel
theorem dX9_often_37 : decode cX9_often 37 = .ok (.iconst 0, 1) := by decide +kernel
theorem dX9_often_38 : decode cX9_often 38 = .ok (.ireturn, 1) := by decide +kernel
theorem dX9_often_39 : decode cX9_often 39 = .ok (.aload_n 0, 1) := by decide +kernel
theorem dX9_often_40 : decode cX9_often 40 = .ok (.getfield 10, 3) := by decide +kernel
theorem dX9_often_43 : decode cX9_often 43 = .ok (.getfield 80, 3) := by decide +kernel
theorem dX9_often_46 : decode cX9_often 46 = .ok (.iload_n 1, 1) := by decide +kernel
theorem dX9_often_47 : decode cX9_often 47 = .ok (.aaload, 1) := by decide +kernel
theorem dX9_often_48 : decode cX9_often 48 = .ok (.iload_n 2, 1) := by decide +kernel
theorem dX9_often_49 : decode cX9_often 49 = .ok (.putfield 89, 3) := by decide +kernel
theorem dX9_often_52 : decode cX9_often 52 = .ok (.iconst 1, 1) := by decide +kernel
theorem dX9_often_53 : decode cX9_often 53 = .ok (.ireturn, 1) := by decide +kernel
set_option maxRecDepth 20000 in
theorem ggX9_meet_X2_areTwo : GoodIn wsX9_meet wsX2_areTwo := goodIn_r _ [9, 10, 11, 12, 8, 13, 14, 23, 24, 25, 26, 27, 28, 29, 30] (by decide +kernel) (by decide +kernel)
set_option maxRecDepth 20000 in
theorem gX9_meet_X2_areTwo : GoodIn wsX9_meet (wsV RX9 92 RX2 yX2_areTwo wsX2_areTwo) := goodIn_app (goodIn_of _ (by decide +kernel)) ggX9_meet_X2_areTwo
set_option maxRecDepth 20000 in
theorem ggX9_meet_X9_isIn : GoodIn wsX9_meet wsX9_isIn := goodIn_r _ [18] (by decide +kernel) (by decide +kernel)
set_option maxRecDepth 20000 in
theorem gX9_meet_X9_isIn : GoodIn wsX9_meet (va_wsS RX9 104 yX9_isIn wsX9_isIn) := goodIn_app (goodIn_of _ (by decide +kernel)) ggX9_meet_X9_isIn
theorem dX9_meet_0 : decode cX9_meet 0 = .ok (.aload_n 0, 1) := by decide +kernel
theorem dX9_meet_1 : decode cX9_meet 1 = .ok (.getfield 10, 3) := by decide +kernel
theorem dX9_meet_4 : decode cX9_meet 4 = .ok (.iload_n 1, 1) := by decide +kernel
theorem dX9_meet_5 : decode cX9_meet 5 = .ok (.iload_n 2, 1) := by decide +kernel
theorem dX9_meet_6 : decode cX9_meet 6 = .ok (.invokevirtual 92, 3) := by decide +kernel
theorem dX9_meet_9 : decode cX9_meet 9 = .ok (.ifCond .eq 25, 3) := by decide +kernel
theorem dX9_meet_12 : decode cX9_meet 12 = .ok (.aload_n 0, 1) := by decide +kernel
theorem dX9_meet_13 : decode cX9_meet 13 = .ok (.getfield 10, 3) := by decide +kernel
theorem dX9_meet_16 : decode cX9_meet 16 = .ok (.getfield 80, 3) := by decide +kernel
theorem dX9_meet_19 : decode cX9_meet 19 = .ok (.iload_n 1, 1) := by decide +kernel
theorem dX9_meet_20 : decode cX9_meet 20 = .ok (.aaload, 1) := by decide +kernel
theorem dX9_meet_21 : decode cX9_meet 21 = .ok (.getfield 95, 3) := by decide +kernel
theorem dX9_meet_24 : decode cX9_meet 24 = .ok (.getfield 99, 3) := by decide +kernel
theorem dX9_meet_27 : decode cX9_meet 27 = .ok (.iload_n 2, 1) := by decide +kernel
theorem dX9_meet_28 : decode cX9_meet 28 = .ok (.invokestatic 104, 3) := by decide +kernel
theorem dX9_meet_31 : decode cX9_meet 31 = .ok (.ifCond .eq 5, 3) := by decide +kernel
theorem dX9_meet_34 : decode cX9_meet 34 = .ok (.iconst 0, 1) := by decide +kernel
theorem dX9_meet_35 : decode cX9_meet 35 = .ok (.ireturn, 1) := by decide +kernel
theorem dX9_meet_36 : decode cX9_meet 36 = .ok (.aload_n 0, 1) := by decide +kernel
theorem dX9_meet_37 : decode cX9_meet 37 = .ok (.getfield 10, 3) := by decide +kernel
theorem dX9_meet_40 : decode cX9_meet 40 = .ok (.getfield 80, 3) := by decide +kernel
theorem dX9_meet_43 : decode cX9_meet 43 = .ok (.iload_n 1, 1) := by decide +kernel
theorem dX9_meet_44 : decode cX9_meet 44 = .ok (.aaload, 1) := by decide +kernel
theorem dX9_meet_45 : decode cX9_meet 45 = .ok (.getfield 95, 3) := by decide +kernel
theorem dX9_meet_48 : decode cX9_meet 48 = .ok (.dup, 1) := by decide +kernel
theorem dX9_meet_49 : decode cX9_meet 49 = .ok (.getfield 99, 3) := by decide +kernel
theorem dX9_meet_52 : decode cX9_meet 52 = .ok (.iconst 1, 1) := by decide +kernel
theorem dX9_meet_53 : decode cX9_meet 53 = .ok (.iload_n 2, 1) := by decide +kernel
theorem dX9_meet_54 : decode cX9_meet 54 = .ok (.ishl, 1) := by decide +kernel
theorem dX9_meet_55 : decode cX9_meet 55 = .ok (.ior, 1) := by decide +kernel
theorem dX9_meet_56 : decode cX9_meet 56 = .ok (.putfield 99, 3) := by decide +kernel
theorem dX9_meet_59 : decode cX9_meet 59 = .ok (.aload_n 0, 1) := by decide +kernel
theorem dX9_meet_60 : decode cX9_meet 60 = .ok (.getfield 10, 3) := by decide +kernel
theorem dX9_meet_63 : decode cX9_meet 63 = .ok (.getfield 80, 3) := by decide +kernel
theorem dX9_meet_66 : decode cX9_meet 66 = .ok (.iload_n 2, 1) := by decide +kernel
theorem dX9_meet_67 : decode cX9_meet 67 = .ok (.aaload, 1) := by decide +kernel
theorem dX9_meet_68 : decode cX9_meet 68 = .ok (.getfield 95, 3) := by decide +kernel
theorem dX9_meet_71 : decode cX9_meet 71 = .ok (.dup, 1) := by decide +kernel
theorem dX9_meet_72 : decode cX9_meet 72 = .ok (.getfield 99, 3) := by decide +kernel
theorem dX9_meet_75 : decode cX9_meet 75 = .ok (.iconst 1, 1) := by decide +kernel
theorem dX9_meet_76 : decode cX9_meet 76 = .ok (.iload_n 1, 1) := by decide +kernel
theorem dX9_meet_77 : decode cX9_meet 77 = .ok (.ishl, 1) := by decide +kernel
theorem dX9_meet_78 : decode cX9_meet 78 = .ok (.ior, 1) := by decide +kernel
theorem dX9_meet_79 : decode cX9_meet 79 = .ok (.putfield 99, 3) := by decide +kernel
theorem dX9_meet_82 : decode cX9_meet 82 = .ok (.iconst 1, 1) := by decide +kernel
theorem dX9_meet_83 : decode cX9_meet 83 = .ok (.ireturn, 1) := by decide +kernel
set_option maxRecDepth 20000 in
theorem ggX9_leave_X2_isMember : GoodIn wsX9_leave wsX2_isMember := goodIn_r _ [7, 8, 57, 58, 59, 60, 61, 62, 63, 64] (by decide +kernel) (by decide +kernel)
set_option maxRecDepth 20000 in
theorem gX9_leave_X2_isMember : GoodIn wsX9_leave (wsV RX9 77 RX2 yX2_isMember wsX2_isMember) := goodIn_app (goodIn_of _ (by decide +kernel)) ggX9_leave_X2_isMember
set_option maxRecDepth 20000 in
theorem ggX9_leave_X9_isIn : GoodIn wsX9_leave wsX9_isIn := goodIn_r _ [12] (by decide +kernel) (by decide +kernel)
set_option maxRecDepth 20000 in
theorem gX9_leave_X9_isIn : GoodIn wsX9_leave (va_wsS RX9 104 yX9_isIn wsX9_isIn) := goodIn_app (goodIn_of _ (by decide +kernel)) ggX9_leave_X9_isIn
set_option maxRecDepth 20000 in
theorem ggX9_leave_X2_letGo : GoodIn wsX9_leave wsX2_letGo := goodIn_r _ [16, 17, 18, 19, 20, 8, 21, 22, 23, 6, 24, 25, 26, 27, 28, 29, 30, 31, 32, 33, 34, 35, 36, 37, 38, 39, 40, 11, 41, 42, 43, 44, 45, 46, 47, 48, 49, 50, 51, 52, 57, 58, 59, 60, 61, 62, 63, 64, 65, 66, 67, 68, 69, 70, 71, 72, 73, 74, 75, 76, 77, 78, 79, 80, 81, 82, 83, 84, 85, 86, 87, 88, 89, 90, 91, 92, 93, 94, 95, 96, 97, 98, 99, 100] (by decide +kernel) (by decide +kernel)
set_option maxRecDepth 20000 in
theorem gX9_leave_X2_letGo : GoodIn wsX9_leave (wsV RX9 110 RX2 yX2_letGo wsX2_letGo) := goodIn_app (goodIn_of _ (by decide +kernel)) ggX9_leave_X2_letGo
theorem dX9_leave_0 : decode cX9_leave 0 = .ok (.aload_n 0, 1) := by decide +kernel
theorem dX9_leave_1 : decode cX9_leave 1 = .ok (.getfield 10, 3) := by decide +kernel
theorem dX9_leave_4 : decode cX9_leave 4 = .ok (.iload_n 1, 1) := by decide +kernel
theorem dX9_leave_5 : decode cX9_leave 5 = .ok (.invokevirtual 77, 3) := by decide +kernel
theorem dX9_leave_8 : decode cX9_leave 8 = .ok (.ifCond .eq 17, 3) := by decide +kernel
theorem dX9_leave_11 : decode cX9_leave 11 = .ok (.aload_n 0, 1) := by decide +kernel
theorem dX9_leave_12 : decode cX9_leave 12 = .ok (.getfield 10, 3) := by decide +kernel
theorem dX9_leave_15 : decode cX9_leave 15 = .ok (.getfield 107, 3) := by decide +kernel
theorem dX9_leave_18 : decode cX9_leave 18 = .ok (.iload_n 1, 1) := by decide +kernel
theorem dX9_leave_19 : decode cX9_leave 19 = .ok (.invokestatic 104, 3) := by decide +kernel
theorem dX9_leave_22 : decode cX9_leave 22 = .ok (.ifCond .ne 5, 3) := by decide +kernel
theorem dX9_leave_25 : decode cX9_leave 25 = .ok (.iconst 0, 1) := by decide +kernel
theorem dX9_leave_26 : decode cX9_leave 26 = .ok (.ireturn, 1) := by decide +kernel
theorem dX9_leave_27 : decode cX9_leave 27 = .ok (.aload_n 0, 1) := by decide +kernel
theorem dX9_leave_28 : decode cX9_leave 28 = .ok (.getfield 10, 3) := by decide +kernel
theorem dX9_leave_31 : decode cX9_leave 31 = .ok (.iload_n 1, 1) := by decide +kernel
theorem dX9_leave_32 : decode cX9_leave 32 = .ok (.invokevirtual 110, 3) := by decide +kernel
theorem dX9_leave_35 : decode cX9_leave 35 = .ok (.iconst 1, 1) := by decide +kernel
theorem dX9_leave_36 : decode cX9_leave 36 = .ok (.ireturn, 1) := by decide +kernel
set_option maxRecDepth 20000 in
theorem ggX9_join_X2_isMember : GoodIn wsX9_join wsX2_isMember := goodIn_r _ [7, 8, 17, 18, 19, 20, 21, 22, 23, 24] (by decide +kernel) (by decide +kernel)
set_option maxRecDepth 20000 in
theorem gX9_join_X2_isMember : GoodIn wsX9_join (wsV RX9 77 RX2 yX2_isMember wsX2_isMember) := goodIn_app (goodIn_of _ (by decide +kernel)) ggX9_join_X2_isMember
set_option maxRecDepth 20000 in
theorem ggX9_join_X9_isIn : GoodIn wsX9_join wsX9_isIn := goodIn_r _ [12] (by decide +kernel) (by decide +kernel)
set_option maxRecDepth 20000 in
theorem gX9_join_X9_isIn : GoodIn wsX9_join (va_wsS RX9 104 yX9_isIn wsX9_isIn) := goodIn_app (goodIn_of _ (by decide +kernel)) ggX9_join_X9_isIn
theorem dX9_join_0 : decode cX9_join 0 = .ok (.aload_n 0, 1) := by decide +kernel
theorem dX9_join_1 : decode cX9_join 1 = .ok (.getfield 10, 3) := by decide +kernel
theorem dX9_join_4 : decode cX9_join 4 = .ok (.iload_n 1, 1) := by decide +kernel
theorem dX9_join_5 : decode cX9_join 5 = .ok (.invokevirtual 77, 3) := by decide +kernel
theorem dX9_join_8 : decode cX9_join 8 = .ok (.ifCond .eq 17, 3) := by decide +kernel
theorem dX9_join_11 : decode cX9_join 11 = .ok (.aload_n 0, 1) := by decide +kernel
theorem dX9_join_12 : decode cX9_join 12 = .ok (.getfield 10, 3) := by decide +kernel
theorem dX9_join_15 : decode cX9_join 15 = .ok (.getfield 107, 3) := by decide +kernel
theorem dX9_join_18 : decode cX9_join 18 = .ok (.iload_n 1, 1) := by decide +kernel
theorem dX9_join_19 : decode cX9_join 19 = .ok (.invokestatic 104, 3) := by decide +kernel
theorem dX9_join_22 : decode cX9_join 22 = .ok (.ifCond .eq 5, 3) := by decide +kernel
theorem dX9_join_25 : decode cX9_join 25 = .ok (.iconst 0, 1) := by decide +kernel
theorem dX9_join_26 : decode cX9_join 26 = .ok (.ireturn, 1) := by decide +kernel
theorem dX9_join_27 : decode cX9_join 27 = .ok (.aload_n 0, 1) := by decide +kernel
theorem dX9_join_28 : decode cX9_join 28 = .ok (.getfield 10, 3) := by decide +kernel
theorem dX9_join_31 : decode cX9_join 31 = .ok (.dup, 1) := by decide +kernel
theorem dX9_join_32 : decode cX9_join 32 = .ok (.getfield 107, 3) := by decide +kernel
theorem dX9_join_35 : decode cX9_join 35 = .ok (.iconst 1, 1) := by decide +kernel
theorem dX9_join_36 : decode cX9_join 36 = .ok (.iload_n 1, 1) := by decide +kernel
theorem dX9_join_37 : decode cX9_join 37 = .ok (.ishl, 1) := by decide +kernel
theorem dX9_join_38 : decode cX9_join 38 = .ok (.ior, 1) := by decide +kernel
theorem dX9_join_39 : decode cX9_join 39 = .ok (.putfield 107, 3) := by decide +kernel
theorem dX9_join_42 : decode cX9_join 42 = .ok (.iconst 1, 1) := by decide +kernel
theorem dX9_join_43 : decode cX9_join 43 = .ok (.ireturn, 1) := by decide +kernel
set_option maxRecDepth 20000 in
theorem ggX9_tick_X9_isWithin : GoodIn wsX9_tick wsX9_isWithin := goodIn_r _ [10] (by decide +kernel) (by decide +kernel)
set_option maxRecDepth 20000 in
theorem gX9_tick_X9_isWithin : GoodIn wsX9_tick (va_wsS RX9 43 yX9_isWithin wsX9_isWithin) := goodIn_app (goodIn_of _ (by decide +kernel)) ggX9_tick_X9_isWithin
set_option maxRecDepth 20000 in
theorem ggX9_tick_X0_takeDue : GoodIn wsX9_tick wsX0_takeDue := goodIn_r _ [15, 16, 17, 18, 19, 20, 21, 22, 23, 24, 25, 26, 27, 28, 14, 29, 30, 31, 32, 33, 34, 35, 36, 37, 38, 39, 40, 41, 42, 43, 44, 45, 9, 46, 47, 48, 49, 50, 51, 52, 53, 54, 55, 56, 57, 58, 59, 60, 61, 62, 63, 64, 65, 66, 67, 68, 69, 70, 71, 72, 73, 74, 75, 76, 77, 78, 79, 80, 81, 82, 83, 84, 85, 86, 87, 88, 89, 90, 91, 92, 93, 94, 95, 96, 97, 98, 99, 100, 101, 102, 103, 104, 105, 106, 107, 108, 109, 110, 111, 112, 113, 114, 115, 116, 117, 118, 119, 120, 121, 122, 123, 124, 125, 126, 127, 128, 129, 130, 131, 132, 133, 134, 347, 339, 340, 341, 342, 343, 344, 345, 346, 348, 349, 350, 351, 352, 353, 354, 355, 356, 357, 358, 359, 360, 361, 362, 363, 364, 365, 366, 367, 368, 369, 370, 371, 372, 373, 374, 375, 376, 377, 378, 379, 380, 381, 382, 383, 384, 385, 386] (by decide +kernel) (by decide +kernel)
set_option maxRecDepth 20000 in
theorem gX9_tick_X0_takeDue : GoodIn wsX9_tick (wsV RX9 120 RX0 yX0_takeDue wsX0_takeDue) := goodIn_app (goodIn_of _ (by decide +kernel)) ggX9_tick_X0_takeDue
set_option maxRecDepth 20000 in
theorem ggX9_tick_X4_openAll : GoodIn wsX9_tick wsX4_openAll := goodIn_r _ [139, 140, 141, 142, 53, 9, 54, 143, 144, 145, 138, 146, 147, 148, 149, 150, 151, 152, 153, 154, 155, 156, 157, 158, 159, 160, 161, 162, 163, 164, 165, 166, 167, 168, 169, 170, 171, 172, 173, 174, 175, 176, 177, 178, 179, 180, 181, 182, 183, 184, 185, 186, 187, 188, 189, 190, 191, 192, 193, 194, 195, 196, 197, 198, 199, 200, 201, 202, 203, 204, 205, 206, 207, 208, 209, 210, 211, 212, 387, 339, 340, 341, 342, 343, 344, 345, 346, 355, 356, 357, 358, 359, 360, 361, 362, 363, 364, 365, 366, 367, 368, 369, 370, 371, 372, 373, 374, 375, 376, 377, 381, 382, 383, 384, 385, 386] (by decide +kernel) (by decide +kernel)
set_option maxRecDepth 20000 in
theorem gX9_tick_X4_openAll : GoodIn wsX9_tick (wsV RX9 123 RX4 yX4_openAll wsX4_openAll) := goodIn_app (goodIn_of _ (by decide +kernel)) ggX9_tick_X4_openAll
set_option maxRecDepth 20000 in
theorem ggX9_tick_X1_dropStranded : GoodIn wsX9_tick wsX1_dropStranded := goodIn_r _ [217, 218, 219, 220, 221, 222, 53, 9, 54, 223, 175, 176, 161, 177, 163, 178, 179, 180, 181, 182, 224, 225, 226, 216, 227, 228, 229, 230, 231, 232, 62, 63, 41, 64, 60, 45, 46, 233, 121, 122, 123, 388, 339, 340, 341, 342, 343, 344, 345, 346, 355, 356, 357, 358, 359, 360, 361, 362, 363, 364, 365, 366, 367, 368, 369, 370, 371, 372, 373, 374, 375, 376, 377, 381, 382, 383, 384, 385, 386, 378, 379, 380] (by decide +kernel) (by decide +kernel)
set_option maxRecDepth 20000 in
theorem gX9_tick_X1_dropStranded : GoodIn wsX9_tick (wsV RX9 126 RX1 yX1_dropStranded wsX1_dropStranded) := goodIn_app (goodIn_of _ (by decide +kernel)) ggX9_tick_X1_dropStranded
set_option maxRecDepth 20000 in
theorem ggX9_tick_X1_runRounds : GoodIn wsX9_tick wsX1_runRounds := goodIn_r _ [237, 218, 219, 221, 238, 239, 240, 241, 220, 53, 9, 54, 242, 243, 244, 216, 245, 246, 222, 230, 247, 248, 195, 196, 155, 197, 198, 249, 250, 251, 127, 252, 253, 254, 255, 256, 257, 258, 259, 223, 175, 176, 161, 177, 163, 178, 179, 180, 181, 182, 260, 261, 262, 263, 231, 229, 264, 265, 266, 41, 267, 43, 74, 56, 57, 58, 59, 60, 45, 46, 268, 269, 270, 271, 228, 272, 273, 274, 275, 164, 167, 168, 169, 170, 157, 171, 172, 173, 276, 277, 278, 279, 280, 281, 282, 283, 130, 131, 129, 284, 285, 286, 287, 288, 289, 290, 291, 292, 293, 294, 295, 296, 297, 298, 299, 300, 301, 302, 303, 304, 132, 305, 306, 307, 308, 309, 310, 311, 312, 313, 314, 315, 316, 317, 318, 319, 320, 321, 322, 44, 323, 91, 92, 87, 93, 94, 95, 324, 325, 326, 327, 328, 329, 330, 331, 332, 333, 133, 134, 334, 388, 339, 340, 341, 342, 343, 344, 345, 346, 355, 356, 357, 358, 359, 360, 361, 362, 363, 364, 365, 366, 367, 378, 379, 380, 348, 349, 350, 351, 352, 353, 354, 368, 369, 370, 371, 372, 373, 374, 375, 376, 377, 381, 382, 383, 384, 385, 386] (by decide +kernel) (by decide +kernel)
set_option maxRecDepth 20000 in
theorem gX9_tick_X1_runRounds : GoodIn wsX9_tick (wsV RX9 129 RX1 yX1_runRounds wsX1_runRounds) := goodIn_app (goodIn_of _ (by decide +kernel)) ggX9_tick_X1_runRounds
theorem dX9_tick_0 : decode cX9_tick 0 = .ok (.iload_n 1, 1) := by decide +kernel
theorem dX9_tick_1 : decode cX9_tick 1 = .ok (.iconst 0, 1) := by decide +kernel
theorem dX9_tick_2 : decode cX9_tick 2 = .ok (.bipush 50, 2) := by decide +kernel
theorem dX9_tick_4 : decode cX9_tick 4 = .ok (.invokestatic 43, 3) := by decide +kernel
theorem dX9_tick_7 : decode cX9_tick 7 = .ok (.ifCond .ne 5, 3) := by decide +kernel
theorem dX9_tick_10 : decode cX9_tick 10 = .ok (.iconst (-1), 1) := by decide +kernel
theorem dX9_tick_11 : decode cX9_tick 11 = .ok (.ireturn, 1) := by decide +kernel
theorem dX9_tick_12 : decode cX9_tick 12 = .ok (.aload_n 0, 1) := by decide +kernel
theorem dX9_tick_13 : decode cX9_tick 13 = .ok (.getfield 10, 3) := by decide +kernel
theorem dX9_tick_16 : decode cX9_tick 16 = .ok (.getfield 114, 3) := by decide +kernel
theorem dX9_tick_19 : decode cX9_tick 19 = .ok (.istore_n 2, 1) := by decide +kernel
theorem dX9_tick_20 : decode cX9_tick 20 = .ok (.iconst 0, 1) := by decide +kernel
theorem dX9_tick_21 : decode cX9_tick 21 = .ok (.istore_n 3, 1) := by decide +kernel
theorem dX9_tick_22 : decode cX9_tick 22 = .ok (.iload_n 3, 1) := by decide +kernel
theorem dX9_tick_23 : decode cX9_tick 23 = .ok (.iload_n 1, 1) := by decide +kernel
theorem dX9_tick_24 : decode cX9_tick 24 = .ok (.if_icmp .ge 70, 3) := by decide +kernel
theorem dX9_tick_27 : decode cX9_tick 27 = .ok (.aload_n 0, 1) := by decide +kernel
theorem dX9_tick_28 : decode cX9_tick 28 = .ok (.getfield 10, 3) := by decide +kernel
theorem dX9_tick_31 : decode cX9_tick 31 = .ok (.dup, 1) := by decide +kernel
theorem dX9_tick_32 : decode cX9_tick 32 = .ok (.getfield 117, 3) := by decide +kernel
theorem dX9_tick_35 : decode cX9_tick 35 = .ok (.iconst 1, 1) := by decide +kernel
theorem dX9_tick_36 : decode cX9_tick 36 = .ok (.iadd, 1) := by decide +kernel
theorem dX9_tick_37 : decode cX9_tick 37 = .ok (.putfield 117, 3) := by decide +kernel
theorem dX9_tick_40 : decode cX9_tick 40 = .ok (.aload_n 0, 1) := by decide +kernel
theorem dX9_tick_41 : decode cX9_tick 41 = .ok (.getfield 21, 3) := by decide +kernel
theorem dX9_tick_44 : decode cX9_tick 44 = .ok (.invokevirtual 120, 3) := by decide +kernel
theorem dX9_tick_47 : decode cX9_tick 47 = .ok (.aload_n 0, 1) := by decide +kernel
theorem dX9_tick_48 : decode cX9_tick 48 = .ok (.getfield 10, 3) := by decide +kernel
theorem dX9_tick_51 : decode cX9_tick 51 = .ok (.getfield 117, 3) := by decide +kernel
theorem dX9_tick_54 : decode cX9_tick 54 = .ok (.iconst 4, 1) := by decide +kernel
theorem dX9_tick_55 : decode cX9_tick 55 = .ok (.irem, 1) := by decide +kernel
theorem dX9_tick_56 : decode cX9_tick 56 = .ok (.iconst 1, 1) := by decide +kernel
theorem dX9_tick_57 : decode cX9_tick 57 = .ok (.if_icmp .ne 10, 3) := by decide +kernel
theorem dX9_tick_60 : decode cX9_tick 60 = .ok (.aload_n 0, 1) := by decide +kernel
theorem dX9_tick_61 : decode cX9_tick 61 = .ok (.getfield 28, 3) := by decide +kernel
theorem dX9_tick_64 : decode cX9_tick 64 = .ok (.invokevirtual 123, 3) := by decide +kernel
theorem dX9_tick_67 : decode cX9_tick 67 = .ok (.aload_n 0, 1) := by decide +kernel
theorem dX9_tick_68 : decode cX9_tick 68 = .ok (.getfield 35, 3) := by decide +kernel
theorem dX9_tick_71 : decode cX9_tick 71 = .ok (.invokevirtual 126, 3) := by decide +kernel
theorem dX9_tick_74 : decode cX9_tick 74 = .ok (.aload_n 0, 1) := by decide +kernel
theorem dX9_tick_75 : decode cX9_tick 75 = .ok (.getfield 35, 3) := by decide +kernel
theorem dX9_tick_78 : decode cX9_tick 78 = .ok (.invokevirtual 129, 3) := by decide +kernel
theorem dX9_tick_81 : decode cX9_tick 81 = .ok (.aload_n 0, 1) := by decide +kernel
theorem dX9_tick_82 : decode cX9_tick 82 = .ok (.getfield 21, 3) := by decide +kernel
theorem dX9_tick_85 : decode cX9_tick 85 = .ok (.invokevirtual 120, 3) := by decide +kernel
theorem dX9_tick_88 : decode cX9_tick 88 = .ok (.iinc 3 1, 3) := by decide +kernel
theorem dX9_tick_91 : decode cX9_tick 91 = .ok (.goto (-69), 3) := by decide +kernel
theorem dX9_tick_94 : decode cX9_tick 94 = .ok (.aload_n 0, 1) := by decide +kernel
theorem dX9_tick_95 : decode cX9_tick 95 = .ok (.getfield 10, 3) := by decide +kernel
theorem dX9_tick_98 : decode cX9_tick 98 = .ok (.getfield 114, 3) := by decide +kernel
theorem dX9_tick_101 : decode cX9_tick 101 = .ok (.iload_n 2, 1) := by decide +kernel
theorem dX9_tick_102 : decode cX9_tick 102 = .ok (.isub, 1) := by decide +kernel
theorem dX9_tick_103 : decode cX9_tick 103 = .ok (.ireturn, 1) := by decide +kernel
set_option maxRecDepth 20000 in
theorem ggX9_about_X2_isMember : GoodIn wsX9_about wsX2_isMember := goodIn_r _ [22, 23, 59, 60, 61, 62, 63, 64, 65, 66] (by decide +kernel) (by decide +kernel)
set_option maxRecDepth 20000 in
theorem gX9_about_X2_isMember : GoodIn wsX9_about (wsV RX9 77 RX2 yX2_isMember wsX2_isMember) := goodIn_app (goodIn_of _ (by decide +kernel)) ggX9_about_X2_isMember
set_option maxRecDepth 20000 in
theorem ggX9_about_X9_isIn : GoodIn wsX9_about wsX9_isIn := goodIn_r _ [27] (by decide +kernel) (by decide +kernel)
set_option maxRecDepth 20000 in
theorem gX9_about_X9_isIn : GoodIn wsX9_about (va_wsS RX9 104 yX9_isIn wsX9_isIn) := goodIn_app (goodIn_of _ (by decide +kernel)) ggX9_about_X9_isIn
set_option maxRecDepth 20000 in
theorem ggX9_about_X9_oneIf : GoodIn wsX9_about wsX9_oneIf := goodIn_r _ [30] (by decide +kernel) (by decide +kernel)
set_option maxRecDepth 20000 in
theorem gX9_about_X9_oneIf : GoodIn wsX9_about (va_wsS RX9 132 yX9_oneIf wsX9_oneIf) := goodIn_app (goodIn_of _ (by decide +kernel)) ggX9_about_X9_oneIf
set_option maxRecDepth 20000 in
theorem ggX9_about_J6_bitCount_0f7a4 : GoodIn wsX9_about wsJ6_bitCount_0f7a4 := goodIn_r _ [34, 35, 36, 37] (by decide +kernel) (by decide +kernel)
set_option maxRecDepth 20000 in
theorem gX9_about_J6_bitCount_0f7a4 : GoodIn wsX9_about (va_wsS RX9 145 yJ6_bitCount_0f7a4 wsJ6_bitCount_0f7a4) := goodIn_app (goodIn_of _ (by decide +kernel)) ggX9_about_J6_bitCount_0f7a4
set_option maxRecDepth 20000 in
theorem ggX9_about_X6_heldInAll : GoodIn wsX9_about wsX6_heldInAll := goodIn_r _ [42, 43, 44, 45, 41, 46, 47, 48, 49, 50, 51, 52, 25, 26, 27, 53, 54, 29, 30, 80, 81, 82, 83, 84, 85] (by decide +kernel) (by decide +kernel)
set_option maxRecDepth 20000 in
theorem gX9_about_X6_heldInAll : GoodIn wsX9_about (wsV RX9 150 RX6 yX6_heldInAll wsX6_heldInAll) := goodIn_app (goodIn_of _ (by decide +kernel)) ggX9_about_X6_heldInAll
theorem dX9_about_0 : decode cX9_about 0 = .ok (.aload_n 0, 1) := by decide +kernel
theorem dX9_about_1 : decode cX9_about 1 = .ok (.getfield 10, 3) := by decide +kernel
theorem dX9_about_4 : decode cX9_about 4 = .ok (.iload_n 1, 1) := by decide +kernel
theorem dX9_about_5 : decode cX9_about 5 = .ok (.invokevirtual 77, 3) := by decide +kernel
theorem dX9_about_8 : decode cX9_about 8 = .ok (.ifCond .ne 5, 3) := by decide +kernel
theorem dX9_about_11 : decode cX9_about 11 = .ok (.iconst (-1), 1) := by decide +kernel
theorem dX9_about_12 : decode cX9_about 12 = .ok (.ireturn, 1) := by decide +kernel
theorem dX9_about_13 : decode cX9_about 13 = .ok (.aload_n 0, 1) := by decide +kernel
theorem dX9_about_14 : decode cX9_about 14 = .ok (.getfield 10, 3) := by decide +kernel
theorem dX9_about_17 : decode cX9_about 17 = .ok (.getfield 80, 3) := by decide +kernel
theorem dX9_about_20 : decode cX9_about 20 = .ok (.iload_n 1, 1) := by decide +kernel
theorem dX9_about_21 : decode cX9_about 21 = .ok (.aaload, 1) := by decide +kernel
theorem dX9_about_22 : decode cX9_about 22 = .ok (.astore_n 3, 1) := by decide +kernel
theorem dX9_about_23 : decode cX9_about 23 = .ok (.iload_n 2, 1) := by decide +kernel
theorem dX9_about_24 : decode cX9_about 24 = .ok (.tableswitch 188 0 13 #[72, 77, 92, 103, 111, 116, 121, 126, 131, 142, 147, 155, 166, 177], 72) := by decide +kernel
theorem dX9_about_96 : decode cX9_about 96 = .ok (.aload_n 3, 1) := by decide +kernel
theorem dX9_about_97 : decode cX9_about 97 = .ok (.getfield 84, 3) := by decide +kernel
theorem dX9_about_100 : decode cX9_about 100 = .ok (.ireturn, 1) := by decide +kernel
theorem dX9_about_101 : decode cX9_about 101 = .ok (.aload_n 0, 1) := by decide +kernel
theorem dX9_about_102 : decode cX9_about 102 = .ok (.getfield 10, 3) := by decide +kernel
theorem dX9_about_105 : decode cX9_about 105 = .ok (.getfield 107, 3) := by decide +kernel
theorem dX9_about_108 : decode cX9_about 108 = .ok (.iload_n 1, 1) := by decide +kernel
theorem dX9_about_109 : decode cX9_about 109 = .ok (.invokestatic 104, 3) := by decide +kernel
theorem dX9_about_112 : decode cX9_about 112 = .ok (.invokestatic 132, 3) := by decide +kernel
theorem dX9_about_115 : decode cX9_about 115 = .ok (.ireturn, 1) := by decide +kernel
theorem dX9_about_116 : decode cX9_about 116 = .ok (.aload_n 3, 1) := by decide +kernel
theorem dX9_about_117 : decode cX9_about 117 = .ok (.getfield 136, 3) := by decide +kernel
theorem dX9_about_120 : decode cX9_about 120 = .ok (.getfield 140, 3) := by decide +kernel
theorem dX9_about_123 : decode cX9_about 123 = .ok (.invokestatic 145, 3) := by decide +kernel
theorem dX9_about_126 : decode cX9_about 126 = .ok (.ireturn, 1) := by decide +kernel
theorem dX9_about_127 : decode cX9_about 127 = .ok (.aload_n 3, 1) := by decide +kernel
theorem dX9_about_128 : decode cX9_about 128 = .ok (.getfield 136, 3) := by decide +kernel
theorem dX9_about_131 : decode cX9_about 131 = .ok (.invokevirtual 150, 3) := by decide +kernel
theorem dX9_about_134 : decode cX9_about 134 = .ok (.ireturn, 1) := by decide +kernel
theorem dX9_about_135 : decode cX9_about 135 = .ok (.aload_n 3, 1) := by decide +kernel
theorem dX9_about_136 : decode cX9_about 136 = .ok (.getfield 154, 3) := by decide +kernel
theorem dX9_about_139 : decode cX9_about 139 = .ok (.ireturn, 1) := by decide +kernel
theorem dX9_about_140 : decode cX9_about 140 = .ok (.aload_n 3, 1) := by decide +kernel
theorem dX9_about_141 : decode cX9_about 141 = .ok (.getfield 157, 3) := by decide +kernel
theorem dX9_about_144 : decode cX9_about 144 = .ok (.ireturn, 1) := by decide +kernel
theorem dX9_about_145 : decode cX9_about 145 = .ok (.aload_n 3, 1) := by decide +kernel
theorem dX9_about_146 : decode cX9_about 146 = .ok (.getfield 160, 3) := by decide +kernel
theorem dX9_about_149 : decode cX9_about 149 = .ok (.ireturn, 1) := by decide +kernel
theorem dX9_about_150 : decode cX9_about 150 = .ok (.aload_n 3, 1) := by decide +kernel
theorem dX9_about_151 : decode cX9_about 151 = .ok (.getfield 163, 3) := by decide +kernel
theorem dX9_about_154 : decode cX9_about 154 = .ok (.ireturn, 1) := by decide +kernel
theorem dX9_about_155 : decode cX9_about 155 = .ok (.aload_n 3, 1) := by decide +kernel
theorem dX9_about_156 : decode cX9_about 156 = .ok (.getfield 136, 3) := by decide +kernel
theorem dX9_about_159 : decode cX9_about 159 = .ok (.getfield 166, 3) := by decide +kernel
theorem dX9_about_162 : decode cX9_about 162 = .ok (.invokestatic 145, 3) := by decide +kernel
theorem dX9_about_165 : decode cX9_about 165 = .ok (.ireturn, 1) := by decide +kernel
theorem dX9_about_166 : decode cX9_about 166 = .ok (.aload_n 3, 1) := by decide +kernel
theorem dX9_about_167 : decode cX9_about 167 = .ok (.getfield 169, 3) := by decide +kernel
theorem dX9_about_170 : decode cX9_about 170 = .ok (.ireturn, 1) := by decide +kernel
theorem dX9_about_171 : decode cX9_about 171 = .ok (.aload_n 3, 1) := by decide +kernel
theorem dX9_about_172 : decode cX9_about 172 = .ok (.getfield 136, 3) := by decide +kernel
theorem dX9_about_175 : decode cX9_about 175 = .ok (.getfield 172, 3) := by decide +kernel
theorem dX9_about_178 : decode cX9_about 178 = .ok (.ireturn, 1) := by decide +kernel
theorem dX9_about_179 : decode cX9_about 179 = .ok (.aload_n 3, 1) := by decide +kernel
theorem dX9_about_180 : decode cX9_about 180 = .ok (.getfield 95, 3) := by decide +kernel
theorem dX9_about_183 : decode cX9_about 183 = .ok (.getfield 175, 3) := by decide +kernel
theorem dX9_about_186 : decode cX9_about 186 = .ok (.invokestatic 145, 3) := by decide +kernel
theorem dX9_about_189 : decode cX9_about 189 = .ok (.ireturn, 1) := by decide +kernel
theorem dX9_about_190 : decode cX9_about 190 = .ok (.aload_n 3, 1) := by decide +kernel
theorem dX9_about_191 : decode cX9_about 191 = .ok (.getfield 95, 3) := by decide +kernel
theorem dX9_about_194 : decode cX9_about 194 = .ok (.getfield 178, 3) := by decide +kernel
theorem dX9_about_197 : decode cX9_about 197 = .ok (.invokestatic 145, 3) := by decide +kernel
theorem dX9_about_200 : decode cX9_about 200 = .ok (.ireturn, 1) := by decide +kernel
theorem dX9_about_201 : decode cX9_about 201 = .ok (.aload_n 3, 1) := by decide +kernel
theorem dX9_about_202 : decode cX9_about 202 = .ok (.getfield 95, 3) := by decide +kernel
theorem dX9_about_205 : decode cX9_about 205 = .ok (.getfield 99, 3) := by decide +kernel
theorem dX9_about_208 : decode cX9_about 208 = .ok (.invokestatic 145, 3) := by decide +kernel
theorem dX9_about_211 : decode cX9_about 211 = .ok (.ireturn, 1) := by decide +kernel
theorem dX9_about_212 : decode cX9_about 212 = .ok (.iconst (-1), 1) := by decide +kernel
theorem dX9_about_213 : decode cX9_about 213 = .ok (.ireturn, 1) := by decide +kernel
set_option maxRecDepth 20000 in
theorem ggX9_held_X2_isMember : GoodIn wsX9_held wsX2_isMember := goodIn_r _ [11, 12, 42, 43, 44, 45, 46, 47, 48, 49] (by decide +kernel) (by decide +kernel)
set_option maxRecDepth 20000 in
theorem gX9_held_X2_isMember : GoodIn wsX9_held (wsV RX9 77 RX2 yX2_isMember wsX2_isMember) := goodIn_app (goodIn_of _ (by decide +kernel)) ggX9_held_X2_isMember
set_option maxRecDepth 20000 in
theorem ggX9_held_X8_isPiece : GoodIn wsX9_held wsX8_isPiece := goodIn_r _ [17, 18, 69, 70, 71] (by decide +kernel) (by decide +kernel)
set_option maxRecDepth 20000 in
theorem gX9_held_X8_isPiece : GoodIn wsX9_held (wsV RX9 65 RX8 yX8_isPiece wsX8_isPiece) := goodIn_app (goodIn_of _ (by decide +kernel)) ggX9_held_X8_isPiece
set_option maxRecDepth 20000 in
theorem ggX9_held_X9_isIn : GoodIn wsX9_held wsX9_isIn := goodIn_r _ [22] (by decide +kernel) (by decide +kernel)
set_option maxRecDepth 20000 in
theorem gX9_held_X9_isIn : GoodIn wsX9_held (va_wsS RX9 104 yX9_isIn wsX9_isIn) := goodIn_app (goodIn_of _ (by decide +kernel)) ggX9_held_X9_isIn
set_option maxRecDepth 20000 in
theorem ggX9_held_X6_heldOf : GoodIn wsX9_held wsX6_heldOf := goodIn_r _ [27, 28, 29, 30, 26, 31, 32, 33, 20, 21, 22, 34, 35, 36, 37, 63, 64, 65, 66, 67, 68] (by decide +kernel) (by decide +kernel)
set_option maxRecDepth 20000 in
theorem gX9_held_X6_heldOf : GoodIn wsX9_held (wsV RX9 184 RX6 yX6_heldOf wsX6_heldOf) := goodIn_app (goodIn_of _ (by decide +kernel)) ggX9_held_X6_heldOf
theorem dX9_held_0 : decode cX9_held 0 = .ok (.aload_n 0, 1) := by decide +kernel
theorem dX9_held_1 : decode cX9_held 1 = .ok (.getfield 10, 3) := by decide +kernel
theorem dX9_held_4 : decode cX9_held 4 = .ok (.iload_n 1, 1) := by decide +kernel
theorem dX9_held_5 : decode cX9_held 5 = .ok (.invokevirtual 77, 3) := by decide +kernel
theorem dX9_held_8 : decode cX9_held 8 = .ok (.ifCond .eq 17, 3) := by decide +kernel
theorem dX9_held_11 : decode cX9_held 11 = .ok (.aload_n 0, 1) := by decide +kernel
theorem dX9_held_12 : decode cX9_held 12 = .ok (.getfield 10, 3) := by decide +kernel
theorem dX9_held_15 : decode cX9_held 15 = .ok (.getfield 47, 3) := by decide +kernel
theorem dX9_held_18 : decode cX9_held 18 = .ok (.iload_n 2, 1) := by decide +kernel
theorem dX9_held_19 : decode cX9_held 19 = .ok (.invokevirtual 65, 3) := by decide +kernel
theorem dX9_held_22 : decode cX9_held 22 = .ok (.ifCond .ne 5, 3) := by decide +kernel
theorem dX9_held_25 : decode cX9_held 25 = .ok (.iconst (-1), 1) := by decide +kernel
theorem dX9_held_26 : decode cX9_held 26 = .ok (.ireturn, 1) := by decide +kernel
theorem dX9_held_27 : decode cX9_held 27 = .ok (.aload_n 0, 1) := by decide +kernel
theorem dX9_held_28 : decode cX9_held 28 = .ok (.getfield 10, 3) := by decide +kernel
theorem dX9_held_31 : decode cX9_held 31 = .ok (.getfield 80, 3) := by decide +kernel
theorem dX9_held_34 : decode cX9_held 34 = .ok (.iload_n 1, 1) := by decide +kernel
theorem dX9_held_35 : decode cX9_held 35 = .ok (.aaload, 1) := by decide +kernel
theorem dX9_held_36 : decode cX9_held 36 = .ok (.getfield 136, 3) := by decide +kernel
theorem dX9_held_39 : decode cX9_held 39 = .ok (.astore_n 3, 1) := by decide +kernel
theorem dX9_held_40 : decode cX9_held 40 = .ok (.aload_n 3, 1) := by decide +kernel
theorem dX9_held_41 : decode cX9_held 41 = .ok (.getfield 140, 3) := by decide +kernel
theorem dX9_held_44 : decode cX9_held 44 = .ok (.iload_n 2, 1) := by decide +kernel
theorem dX9_held_45 : decode cX9_held 45 = .ok (.invokestatic 104, 3) := by decide +kernel
theorem dX9_held_48 : decode cX9_held 48 = .ok (.ifCond .eq 16, 3) := by decide +kernel
theorem dX9_held_51 : decode cX9_held 51 = .ok (.aload_n 0, 1) := by decide +kernel
theorem dX9_held_52 : decode cX9_held 52 = .ok (.getfield 10, 3) := by decide +kernel
theorem dX9_held_55 : decode cX9_held 55 = .ok (.getfield 47, 3) := by decide +kernel
theorem dX9_held_58 : decode cX9_held 58 = .ok (.getfield 181, 3) := by decide +kernel
theorem dX9_held_61 : decode cX9_held 61 = .ok (.goto 8, 3) := by decide +kernel
theorem dX9_held_64 : decode cX9_held 64 = .ok (.aload_n 3, 1) := by decide +kernel
theorem dX9_held_65 : decode cX9_held 65 = .ok (.iload_n 2, 1) := by decide +kernel
theorem dX9_held_66 : decode cX9_held 66 = .ok (.invokevirtual 184, 3) := by decide +kernel
theorem dX9_held_69 : decode cX9_held 69 = .ok (.ireturn, 1) := by decide +kernel
set_option maxRecDepth 20000 in
theorem ggX9_from_X2_isMember : GoodIn wsX9_from wsX2_isMember := goodIn_r _ [10, 11, 31, 32, 33, 34, 35, 36, 37, 38] (by decide +kernel) (by decide +kernel)
set_option maxRecDepth 20000 in
theorem gX9_from_X2_isMember : GoodIn wsX9_from (wsV RX9 77 RX2 yX2_isMember wsX2_isMember) := goodIn_app (goodIn_of _ (by decide +kernel)) ggX9_from_X2_isMember
set_option maxRecDepth 20000 in
theorem ggX9_from_X8_isBlock : GoodIn wsX9_from wsX8_isBlock := goodIn_r _ [16, 17, 18, 19, 20, 15, 21, 22, 58, 59, 60] (by decide +kernel) (by decide +kernel)
set_option maxRecDepth 20000 in
theorem gX9_from_X8_isBlock : GoodIn wsX9_from (wsV RX9 57 RX8 yX8_isBlock wsX8_isBlock) := goodIn_app (goodIn_of _ (by decide +kernel)) ggX9_from_X8_isBlock
set_option maxRecDepth 20000 in
theorem ggX9_from_X9_place : GoodIn wsX9_from wsX9_place := goodIn_r _ [26] (by decide +kernel) (by decide +kernel)
set_option maxRecDepth 20000 in
theorem gX9_from_X9_place : GoodIn wsX9_from (va_wsS RX9 191 yX9_place wsX9_place) := goodIn_app (goodIn_of _ (by decide +kernel)) ggX9_from_X9_place
theorem dX9_from_0 : decode cX9_from 0 = .ok (.aload_n 0, 1) := by decide +kernel
theorem dX9_from_1 : decode cX9_from 1 = .ok (.getfield 10, 3) := by decide +kernel
theorem dX9_from_4 : decode cX9_from 4 = .ok (.iload_n 1, 1) := by decide +kernel
theorem dX9_from_5 : decode cX9_from 5 = .ok (.invokevirtual 77, 3) := by decide +kernel
theorem dX9_from_8 : decode cX9_from 8 = .ok (.ifCond .eq 18, 3) := by decide +kernel
theorem dX9_from_11 : decode cX9_from 11 = .ok (.aload_n 0, 1) := by decide +kernel
theorem dX9_from_12 : decode cX9_from 12 = .ok (.getfield 10, 3) := by decide +kernel
theorem dX9_from_15 : decode cX9_from 15 = .ok (.getfield 47, 3) := by decide +kernel
theorem dX9_from_18 : decode cX9_from 18 = .ok (.iload_n 2, 1) := by decide +kernel
theorem dX9_from_19 : decode cX9_from 19 = .ok (.iload_n 3, 1) := by decide +kernel
theorem dX9_from_20 : decode cX9_from 20 = .ok (.invokevirtual 57, 3) := by decide +kernel
theorem dX9_from_23 : decode cX9_from 23 = .ok (.ifCond .ne 5, 3) := by decide +kernel
theorem dX9_from_26 : decode cX9_from 26 = .ok (.iconst (-1), 1) := by decide +kernel
theorem dX9_from_27 : decode cX9_from 27 = .ok (.ireturn, 1) := by decide +kernel
theorem dX9_from_28 : decode cX9_from 28 = .ok (.aload_n 0, 1) := by decide +kernel
theorem dX9_from_29 : decode cX9_from 29 = .ok (.getfield 10, 3) := by decide +kernel
theorem dX9_from_32 : decode cX9_from 32 = .ok (.getfield 80, 3) := by decide +kernel
theorem dX9_from_35 : decode cX9_from 35 = .ok (.iload_n 1, 1) := by decide +kernel
theorem dX9_from_36 : decode cX9_from 36 = .ok (.aaload, 1) := by decide +kernel
theorem dX9_from_37 : decode cX9_from 37 = .ok (.getfield 136, 3) := by decide +kernel
theorem dX9_from_40 : decode cX9_from 40 = .ok (.getfield 187, 3) := by decide +kernel
theorem dX9_from_43 : decode cX9_from 43 = .ok (.iload_n 2, 1) := by decide +kernel
theorem dX9_from_44 : decode cX9_from 44 = .ok (.iload_n 3, 1) := by decide +kernel
theorem dX9_from_45 : decode cX9_from 45 = .ok (.invokestatic 191, 3) := by decide +kernel
theorem dX9_from_48 : decode cX9_from 48 = .ok (.iaload, 1) := by decide +kernel
theorem dX9_from_49 : decode cX9_from 49 = .ok (.ireturn, 1) := by decide +kernel
set_option maxRecDepth 20000 in
theorem ggX9_got_X2_isMember : GoodIn wsX9_got wsX2_isMember := goodIn_r _ [11, 12, 42, 43, 44, 45, 46, 47, 48, 49] (by decide +kernel) (by decide +kernel)
set_option maxRecDepth 20000 in
theorem gX9_got_X2_isMember : GoodIn wsX9_got (wsV RX9 77 RX2 yX2_isMember wsX2_isMember) := goodIn_app (goodIn_of _ (by decide +kernel)) ggX9_got_X2_isMember
set_option maxRecDepth 20000 in
theorem ggX9_got_X8_isBlock : GoodIn wsX9_got wsX8_isBlock := goodIn_r _ [17, 18, 19, 20, 21, 16, 22, 23, 69, 70, 71] (by decide +kernel) (by decide +kernel)
set_option maxRecDepth 20000 in
theorem gX9_got_X8_isBlock : GoodIn wsX9_got (wsV RX9 57 RX8 yX8_isBlock wsX8_isBlock) := goodIn_app (goodIn_of _ (by decide +kernel)) ggX9_got_X8_isBlock
set_option maxRecDepth 20000 in
theorem ggX9_got_X9_isIn : GoodIn wsX9_got wsX9_isIn := goodIn_r _ [27] (by decide +kernel) (by decide +kernel)
set_option maxRecDepth 20000 in
theorem gX9_got_X9_isIn : GoodIn wsX9_got (va_wsS RX9 104 yX9_isIn wsX9_isIn) := goodIn_app (goodIn_of _ (by decide +kernel)) ggX9_got_X9_isIn
set_option maxRecDepth 20000 in
theorem ggX9_got_X6_holds : GoodIn wsX9_got wsX6_holds := goodIn_r _ [32, 33, 34, 25, 26, 27, 35, 36, 63, 64, 65, 66, 67, 68] (by decide +kernel) (by decide +kernel)
set_option maxRecDepth 20000 in
theorem gX9_got_X6_holds : GoodIn wsX9_got (wsV RX9 194 RX6 yX6_holds wsX6_holds) := goodIn_app (goodIn_of _ (by decide +kernel)) ggX9_got_X6_holds
set_option maxRecDepth 20000 in
theorem ggX9_got_X9_place : GoodIn wsX9_got wsX9_place := goodIn_r _ [36] (by decide +kernel) (by decide +kernel)
set_option maxRecDepth 20000 in
theorem gX9_got_X9_place : GoodIn wsX9_got (va_wsS RX9 191 yX9_place wsX9_place) := goodIn_app (goodIn_of _ (by decide +kernel)) ggX9_got_X9_place
theorem dX9_got_0 : decode cX9_got 0 = .ok (.aload_n 0, 1) := by decide +kernel
theorem dX9_got_1 : decode cX9_got 1 = .ok (.getfield 10, 3) := by decide +kernel
theorem dX9_got_4 : decode cX9_got 4 = .ok (.iload_n 1, 1) := by decide +kernel
theorem dX9_got_5 : decode cX9_got 5 = .ok (.invokevirtual 77, 3) := by decide +kernel
theorem dX9_got_8 : decode cX9_got 8 = .ok (.ifCond .eq 18, 3) := by decide +kernel
theorem dX9_got_11 : decode cX9_got 11 = .ok (.aload_n 0, 1) := by decide +kernel
theorem dX9_got_12 : decode cX9_got 12 = .ok (.getfield 10, 3) := by decide +kernel
theorem dX9_got_15 : decode cX9_got 15 = .ok (.getfield 47, 3) := by decide +kernel
theorem dX9_got_18 : decode cX9_got 18 = .ok (.iload_n 2, 1) := by decide +kernel
theorem dX9_got_19 : decode cX9_got 19 = .ok (.iload_n 3, 1) := by decide +kernel
theorem dX9_got_20 : decode cX9_got 20 = .ok (.invokevirtual 57, 3) := by decide +kernel
theorem dX9_got_23 : decode cX9_got 23 = .ok (.ifCond .ne 5, 3) := by decide +kernel
theorem dX9_got_26 : decode cX9_got 26 = .ok (.iconst 0, 1) := by decide +kernel
theorem dX9_got_27 : decode cX9_got 27 = .ok (.ireturn, 1) := by decide +kernel
theorem dX9_got_28 : decode cX9_got 28 = .ok (.aload_n 0, 1) := by decide +kernel
theorem dX9_got_29 : decode cX9_got 29 = .ok (.getfield 10, 3) := by decide +kernel
theorem dX9_got_32 : decode cX9_got 32 = .ok (.getfield 80, 3) := by decide +kernel
theorem dX9_got_35 : decode cX9_got 35 = .ok (.iload_n 1, 1) := by decide +kernel
theorem dX9_got_36 : decode cX9_got 36 = .ok (.aaload, 1) := by decide +kernel
theorem dX9_got_37 : decode cX9_got 37 = .ok (.getfield 136, 3) := by decide +kernel
theorem dX9_got_40 : decode cX9_got 40 = .ok (.astore 4, 2) := by decide +kernel
theorem dX9_got_42 : decode cX9_got 42 = .ok (.aload 4, 2) := by decide +kernel
theorem dX9_got_44 : decode cX9_got 44 = .ok (.getfield 140, 3) := by decide +kernel
theorem dX9_got_47 : decode cX9_got 47 = .ok (.iload_n 2, 1) := by decide +kernel
theorem dX9_got_48 : decode cX9_got 48 = .ok (.invokestatic 104, 3) := by decide +kernel
theorem dX9_got_51 : decode cX9_got 51 = .ok (.ifCond .ne 13, 3) := by decide +kernel
theorem dX9_got_54 : decode cX9_got 54 = .ok (.aload 4, 2) := by decide +kernel
theorem dX9_got_56 : decode cX9_got 56 = .ok (.iload_n 2, 1) := by decide +kernel
theorem dX9_got_57 : decode cX9_got 57 = .ok (.iload_n 3, 1) := by decide +kernel
theorem dX9_got_58 : decode cX9_got 58 = .ok (.invokevirtual 194, 3) := by decide +kernel
theorem dX9_got_61 : decode cX9_got 61 = .ok (.ifCond .eq 7, 3) := by decide +kernel
theorem dX9_got_64 : decode cX9_got 64 = .ok (.iconst 1, 1) := by decide +kernel
theorem dX9_got_65 : decode cX9_got 65 = .ok (.goto 4, 3) := by decide +kernel
theorem dX9_got_68 : decode cX9_got 68 = .ok (.iconst 0, 1) := by decide +kernel
theorem dX9_got_69 : decode cX9_got 69 = .ok (.istore 5, 2) := by decide +kernel
theorem dX9_got_71 : decode cX9_got 71 = .ok (.iload 5, 2) := by decide +kernel
theorem dX9_got_73 : decode cX9_got 73 = .ok (.ifCond .eq 17, 3) := by decide +kernel
theorem dX9_got_76 : decode cX9_got 76 = .ok (.aload 4, 2) := by decide +kernel
theorem dX9_got_78 : decode cX9_got 78 = .ok (.getfield 197, 3) := by decide +kernel
theorem dX9_got_81 : decode cX9_got 81 = .ok (.iload_n 2, 1) := by decide +kernel
theorem dX9_got_82 : decode cX9_got 82 = .ok (.iload_n 3, 1) := by decide +kernel
theorem dX9_got_83 : decode cX9_got 83 = .ok (.invokestatic 191, 3) := by decide +kernel
theorem dX9_got_86 : decode cX9_got 86 = .ok (.iaload, 1) := by decide +kernel
theorem dX9_got_87 : decode cX9_got 87 = .ok (.goto 4, 3) := by decide +kernel
theorem dX9_got_90 : decode cX9_got 90 = .ok (.iconst 0, 1) := by decide +kernel
theorem dX9_got_91 : decode cX9_got 91 = .ok (.ireturn, 1) := by decide +kernel
set_option maxRecDepth 20000 in
theorem ggX9_rare_X2_isMember : GoodIn wsX9_rare wsX2_isMember := goodIn_r _ [7, 8, 52, 53, 54, 55, 56, 57, 58, 59] (by decide +kernel) (by decide +kernel)
