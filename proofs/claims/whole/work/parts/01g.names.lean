theorem dX10_giver_83 : decode cX10_giver 83 = .ok (.iinc 6 1, 3) := by decide +kernel
theorem dX10_giver_86 : decode cX10_giver 86 = .ok (.goto (-80), 3) := by decide +kernel
theorem dX10_giver_89 : decode cX10_giver 89 = .ok (.iload 5, 2) := by decide +kernel
theorem dX10_giver_91 : decode cX10_giver 91 = .ok (.ireturn, 1) := by decide +kernel
set_option maxRecDepth 20000 in
theorem ggX10_nextBlock_X10_cell : GoodIn wsX10_nextBlock wsX10_cell := goodIn_r _ [6] (by decide +kernel) (by decide +kernel)
set_option maxRecDepth 20000 in
theorem gX10_nextBlock_X10_cell : GoodIn wsX10_nextBlock (va_wsS RX10 163 yX10_cell wsX10_cell) := goodIn_app (goodIn_of _ (by decide +kernel)) ggX10_nextBlock_X10_cell
set_option maxRecDepth 20000 in
theorem ggX10_nextBlock_X10_coming : GoodIn wsX10_nextBlock wsX10_coming := goodIn_r _ [10, 11, 12, 13, 14, 15, 16, 17, 18, 19, 20, 21, 22, 23, 24, 25, 26, 27, 28, 29, 30, 31, 32, 33, 34, 35, 36, 37, 38, 39, 40, 41, 42, 43, 44, 45, 46, 47, 48, 49, 50, 51, 52, 53, 54, 55, 56, 57, 58, 59] (by decide +kernel) (by decide +kernel)
set_option maxRecDepth 20000 in
theorem gX10_nextBlock_X10_coming : GoodIn wsX10_nextBlock (wsV RX10 218 RX10 yX10_coming wsX10_coming) := goodIn_app (goodIn_of _ (by decide +kernel)) ggX10_nextBlock_X10_coming
theorem dX10_nextBlock_0 : decode cX10_nextBlock 0 = .ok (.iconst 0, 1) := by decide +kernel
theorem dX10_nextBlock_1 : decode cX10_nextBlock 1 = .ok (.istore_n 3, 1) := by decide +kernel
theorem dX10_nextBlock_2 : decode cX10_nextBlock 2 = .ok (.iload_n 3, 1) := by decide +kernel
theorem dX10_nextBlock_3 : decode cX10_nextBlock 3 = .ok (.aload_n 0, 1) := by decide +kernel
theorem dX10_nextBlock_4 : decode cX10_nextBlock 4 = .ok (.getfield 13, 3) := by decide +kernel
theorem dX10_nextBlock_7 : decode cX10_nextBlock 7 = .ok (.if_icmp .ge 35, 3) := by decide +kernel
theorem dX10_nextBlock_10 : decode cX10_nextBlock 10 = .ok (.aload_n 0, 1) := by decide +kernel
theorem dX10_nextBlock_11 : decode cX10_nextBlock 11 = .ok (.getfield 54, 3) := by decide +kernel
theorem dX10_nextBlock_14 : decode cX10_nextBlock 14 = .ok (.iload_n 1, 1) := by decide +kernel
theorem dX10_nextBlock_15 : decode cX10_nextBlock 15 = .ok (.iload_n 2, 1) := by decide +kernel
theorem dX10_nextBlock_16 : decode cX10_nextBlock 16 = .ok (.iload_n 3, 1) := by decide +kernel
theorem dX10_nextBlock_17 : decode cX10_nextBlock 17 = .ok (.invokestatic 163, 3) := by decide +kernel
theorem dX10_nextBlock_20 : decode cX10_nextBlock 20 = .ok (.baload, 1) := by decide +kernel
theorem dX10_nextBlock_21 : decode cX10_nextBlock 21 = .ok (.ifCond .ne 15, 3) := by decide +kernel
theorem dX10_nextBlock_24 : decode cX10_nextBlock 24 = .ok (.aload_n 0, 1) := by decide +kernel
theorem dX10_nextBlock_25 : decode cX10_nextBlock 25 = .ok (.iload_n 1, 1) := by decide +kernel
theorem dX10_nextBlock_26 : decode cX10_nextBlock 26 = .ok (.iload_n 2, 1) := by decide +kernel
theorem dX10_nextBlock_27 : decode cX10_nextBlock 27 = .ok (.iload_n 3, 1) := by decide +kernel
theorem dX10_nextBlock_28 : decode cX10_nextBlock 28 = .ok (.invokevirtual 218, 3) := by decide +kernel
theorem dX10_nextBlock_31 : decode cX10_nextBlock 31 = .ok (.ifCond .ne 5, 3) := by decide +kernel
theorem dX10_nextBlock_34 : decode cX10_nextBlock 34 = .ok (.iload_n 3, 1) := by decide +kernel
theorem dX10_nextBlock_35 : decode cX10_nextBlock 35 = .ok (.ireturn, 1) := by decide +kernel
theorem dX10_nextBlock_36 : decode cX10_nextBlock 36 = .ok (.iinc 3 1, 3) := by decide +kernel
theorem dX10_nextBlock_39 : decode cX10_nextBlock 39 = .ok (.goto (-37), 3) := by decide +kernel
theorem dX10_nextBlock_42 : decode cX10_nextBlock 42 = .ok (.iconst (-1), 1) := by decide +kernel
theorem dX10_nextBlock_43 : decode cX10_nextBlock 43 = .ok (.ireturn, 1) := by decide +kernel
set_option maxRecDepth 20000 in
theorem ggX10_isBegun_X10_heldMany : GoodIn wsX10_isBegun wsX10_heldMany := goodIn_r _ [6, 1, 7, 8, 9, 5, 10, 19, 20, 21, 22, 23, 24, 25, 26, 27, 28, 29, 30, 31, 32, 33, 34, 35, 36, 37, 38, 39, 40, 41, 42, 43, 44, 45, 46, 47, 48, 49, 50, 51, 52, 53, 54, 55, 56, 57, 58, 59, 60, 61, 62, 63] (by decide +kernel) (by decide +kernel)
set_option maxRecDepth 20000 in
theorem gX10_isBegun_X10_heldMany : GoodIn wsX10_isBegun (wsV RX10 193 RX10 yX10_heldMany wsX10_heldMany) := goodIn_app (goodIn_of _ (by decide +kernel)) ggX10_isBegun_X10_heldMany
set_option maxRecDepth 20000 in
theorem ggX10_isBegun_X10_coming : GoodIn wsX10_isBegun wsX10_coming := goodIn_r _ [14, 15, 16, 17, 18, 19, 20, 21, 22, 23, 24, 25, 26, 27, 28, 29, 30, 31, 32, 33, 34, 35, 36, 37, 38, 39, 40, 41, 42, 43, 44, 45, 46, 47, 48, 49, 50, 51, 52, 53, 54, 55, 56, 57, 58, 59, 60, 61, 62, 63] (by decide +kernel) (by decide +kernel)
set_option maxRecDepth 20000 in
theorem gX10_isBegun_X10_coming : GoodIn wsX10_isBegun (wsV RX10 218 RX10 yX10_coming wsX10_coming) := goodIn_app (goodIn_of _ (by decide +kernel)) ggX10_isBegun_X10_coming
theorem dX10_isBegun_0 : decode cX10_isBegun 0 = .ok (.aload_n 0, 1) := by decide +kernel
theorem dX10_isBegun_1 : decode cX10_isBegun 1 = .ok (.iload_n 1, 1) := by decide +kernel
theorem dX10_isBegun_2 : decode cX10_isBegun 2 = .ok (.iload_n 2, 1) := by decide +kernel
theorem dX10_isBegun_3 : decode cX10_isBegun 3 = .ok (.invokevirtual 193, 3) := by decide +kernel
theorem dX10_isBegun_6 : decode cX10_isBegun 6 = .ok (.ifCond .le 7, 3) := by decide +kernel
theorem dX10_isBegun_9 : decode cX10_isBegun 9 = .ok (.iconst 1, 1) := by decide +kernel
theorem dX10_isBegun_10 : decode cX10_isBegun 10 = .ok (.goto 4, 3) := by decide +kernel
theorem dX10_isBegun_13 : decode cX10_isBegun 13 = .ok (.iconst 0, 1) := by decide +kernel
theorem dX10_isBegun_14 : decode cX10_isBegun 14 = .ok (.istore_n 3, 1) := by decide +kernel
theorem dX10_isBegun_15 : decode cX10_isBegun 15 = .ok (.iconst 0, 1) := by decide +kernel
theorem dX10_isBegun_16 : decode cX10_isBegun 16 = .ok (.istore 4, 2) := by decide +kernel
theorem dX10_isBegun_18 : decode cX10_isBegun 18 = .ok (.iload 4, 2) := by decide +kernel
theorem dX10_isBegun_20 : decode cX10_isBegun 20 = .ok (.aload_n 0, 1) := by decide +kernel
theorem dX10_isBegun_21 : decode cX10_isBegun 21 = .ok (.getfield 13, 3) := by decide +kernel
theorem dX10_isBegun_24 : decode cX10_isBegun 24 = .ok (.if_icmp .ge 30, 3) := by decide +kernel
theorem dX10_isBegun_27 : decode cX10_isBegun 27 = .ok (.iload_n 3, 1) := by decide +kernel
theorem dX10_isBegun_28 : decode cX10_isBegun 28 = .ok (.ifCond .ne 14, 3) := by decide +kernel
theorem dX10_isBegun_31 : decode cX10_isBegun 31 = .ok (.aload_n 0, 1) := by decide +kernel
theorem dX10_isBegun_32 : decode cX10_isBegun 32 = .ok (.iload_n 1, 1) := by decide +kernel
theorem dX10_isBegun_33 : decode cX10_isBegun 33 = .ok (.iload_n 2, 1) := by decide +kernel
theorem dX10_isBegun_34 : decode cX10_isBegun 34 = .ok (.iload 4, 2) := by decide +kernel
theorem dX10_isBegun_36 : decode cX10_isBegun 36 = .ok (.invokevirtual 218, 3) := by decide +kernel
theorem dX10_isBegun_39 : decode cX10_isBegun 39 = .ok (.ifCond .le 7, 3) := by decide +kernel
theorem dX10_isBegun_42 : decode cX10_isBegun 42 = .ok (.iconst 1, 1) := by decide +kernel
theorem dX10_isBegun_43 : decode cX10_isBegun 43 = .ok (.goto 4, 3) := by decide +kernel
theorem dX10_isBegun_46 : decode cX10_isBegun 46 = .ok (.iconst 0, 1) := by decide +kernel
theorem dX10_isBegun_47 : decode cX10_isBegun 47 = .ok (.istore_n 3, 1) := by decide +kernel
theorem dX10_isBegun_48 : decode cX10_isBegun 48 = .ok (.iinc 4 1, 3) := by decide +kernel
theorem dX10_isBegun_51 : decode cX10_isBegun 51 = .ok (.goto (-33), 3) := by decide +kernel
theorem dX10_isBegun_54 : decode cX10_isBegun 54 = .ok (.iload_n 3, 1) := by decide +kernel
theorem dX10_isBegun_55 : decode cX10_isBegun 55 = .ok (.ireturn, 1) := by decide +kernel
set_option maxRecDepth 20000 in
theorem ggX10_tellers_X10_isNear : GoodIn wsX10_tellers wsX10_isNear := goodIn_r _ [6, 7, 8, 9, 10, 11, 5, 12, 19, 20, 21, 22, 23, 24, 25, 26, 27, 28, 29, 30, 31, 32, 33, 34, 35, 36, 37, 38, 39, 40, 41, 42, 43, 44, 45, 46, 47, 48, 49, 50, 51, 52, 53, 54, 55, 56, 57, 58, 59, 60, 61, 62, 63] (by decide +kernel) (by decide +kernel)
set_option maxRecDepth 20000 in
theorem gX10_tellers_X10_isNear : GoodIn wsX10_tellers (wsV RX10 154 RX10 yX10_isNear wsX10_isNear) := goodIn_app (goodIn_of _ (by decide +kernel)) ggX10_tellers_X10_isNear
set_option maxRecDepth 20000 in
theorem ggX10_tellers_X10_tells : GoodIn wsX10_tellers wsX10_tells := goodIn_r _ [16, 17, 18, 19, 20, 21, 22, 23, 24, 25, 26, 27, 28, 29, 30, 31, 32, 33, 34, 35, 36, 37, 38, 39, 40, 41, 42, 43, 44, 45, 46, 47, 48, 49, 50, 51, 52, 53, 54, 55, 56, 57, 58, 59, 60, 61, 62, 63] (by decide +kernel) (by decide +kernel)
set_option maxRecDepth 20000 in
theorem gX10_tellers_X10_tells : GoodIn wsX10_tellers (wsV RX10 157 RX10 yX10_tells wsX10_tells) := goodIn_app (goodIn_of _ (by decide +kernel)) ggX10_tellers_X10_tells
theorem dX10_tellers_0 : decode cX10_tellers 0 = .ok (.iconst 0, 1) := by decide +kernel
theorem dX10_tellers_1 : decode cX10_tellers 1 = .ok (.istore_n 3, 1) := by decide +kernel
theorem dX10_tellers_2 : decode cX10_tellers 2 = .ok (.iconst 0, 1) := by decide +kernel
theorem dX10_tellers_3 : decode cX10_tellers 3 = .ok (.istore 4, 2) := by decide +kernel
theorem dX10_tellers_5 : decode cX10_tellers 5 = .ok (.iload 4, 2) := by decide +kernel
theorem dX10_tellers_7 : decode cX10_tellers 7 = .ok (.aload_n 0, 1) := by decide +kernel
theorem dX10_tellers_8 : decode cX10_tellers 8 = .ok (.getfield 136, 3) := by decide +kernel
theorem dX10_tellers_11 : decode cX10_tellers 11 = .ok (.if_icmp .ge 43, 3) := by decide +kernel
theorem dX10_tellers_14 : decode cX10_tellers 14 = .ok (.iload_n 3, 1) := by decide +kernel
theorem dX10_tellers_15 : decode cX10_tellers 15 = .ok (.iload 4, 2) := by decide +kernel
theorem dX10_tellers_17 : decode cX10_tellers 17 = .ok (.iload_n 1, 1) := by decide +kernel
theorem dX10_tellers_18 : decode cX10_tellers 18 = .ok (.if_icmp .eq 27, 3) := by decide +kernel
theorem dX10_tellers_21 : decode cX10_tellers 21 = .ok (.aload_n 0, 1) := by decide +kernel
theorem dX10_tellers_22 : decode cX10_tellers 22 = .ok (.iload 4, 2) := by decide +kernel
theorem dX10_tellers_24 : decode cX10_tellers 24 = .ok (.iload_n 1, 1) := by decide +kernel
theorem dX10_tellers_25 : decode cX10_tellers 25 = .ok (.invokevirtual 154, 3) := by decide +kernel
theorem dX10_tellers_28 : decode cX10_tellers 28 = .ok (.ifCond .eq 17, 3) := by decide +kernel
theorem dX10_tellers_31 : decode cX10_tellers 31 = .ok (.aload_n 0, 1) := by decide +kernel
theorem dX10_tellers_32 : decode cX10_tellers 32 = .ok (.iload 4, 2) := by decide +kernel
theorem dX10_tellers_34 : decode cX10_tellers 34 = .ok (.iload_n 2, 1) := by decide +kernel
theorem dX10_tellers_35 : decode cX10_tellers 35 = .ok (.invokevirtual 157, 3) := by decide +kernel
theorem dX10_tellers_38 : decode cX10_tellers 38 = .ok (.ifCond .eq 7, 3) := by decide +kernel
theorem dX10_tellers_41 : decode cX10_tellers 41 = .ok (.iconst 1, 1) := by decide +kernel
theorem dX10_tellers_42 : decode cX10_tellers 42 = .ok (.goto 4, 3) := by decide +kernel
theorem dX10_tellers_45 : decode cX10_tellers 45 = .ok (.iconst 0, 1) := by decide +kernel
theorem dX10_tellers_46 : decode cX10_tellers 46 = .ok (.iadd, 1) := by decide +kernel
theorem dX10_tellers_47 : decode cX10_tellers 47 = .ok (.istore_n 3, 1) := by decide +kernel
theorem dX10_tellers_48 : decode cX10_tellers 48 = .ok (.iinc 4 1, 3) := by decide +kernel
theorem dX10_tellers_51 : decode cX10_tellers 51 = .ok (.goto (-46), 3) := by decide +kernel
theorem dX10_tellers_54 : decode cX10_tellers 54 = .ok (.iload_n 3, 1) := by decide +kernel
theorem dX10_tellers_55 : decode cX10_tellers 55 = .ok (.ireturn, 1) := by decide +kernel
set_option maxRecDepth 20000 in
theorem ggX10_sends_X10_two : GoodIn wsX10_sends wsX10_two := goodIn_r _ [21] (by decide +kernel) (by decide +kernel)
set_option maxRecDepth 20000 in
theorem gX10_sends_X10_two : GoodIn wsX10_sends (va_wsS RX10 151 yX10_two wsX10_two) := goodIn_app (goodIn_of _ (by decide +kernel)) ggX10_sends_X10_two
set_option maxRecDepth 20000 in
theorem ggX10_sends_X10_valueOf : GoodIn wsX10_sends wsX10_valueOf := goodIn_r _ [25, 26, 27, 28, 29, 30, 31, 32, 33, 34, 35, 36, 37, 38, 39, 40, 41, 42, 43, 44, 45, 46, 47, 48, 49, 50, 51, 52, 53, 54, 55, 56, 57, 58, 59, 60, 61, 62, 63, 64, 65, 66, 67, 68, 69, 70, 71, 72] (by decide +kernel) (by decide +kernel)
set_option maxRecDepth 20000 in
theorem gX10_sends_X10_valueOf : GoodIn wsX10_sends (wsV RX10 128 RX10 yX10_valueOf wsX10_valueOf) := goodIn_app (goodIn_of _ (by decide +kernel)) ggX10_sends_X10_valueOf
theorem dX10_sends_0 : decode cX10_sends 0 = .ok (.aload_n 0, 1) := by decide +kernel
theorem dX10_sends_1 : decode cX10_sends 1 = .ok (.getfield 114, 3) := by decide +kernel
theorem dX10_sends_4 : decode cX10_sends 4 = .ok (.iload_n 1, 1) := by decide +kernel
theorem dX10_sends_5 : decode cX10_sends 5 = .ok (.dup2, 1) := by decide +kernel
theorem dX10_sends_6 : decode cX10_sends 6 = .ok (.iaload, 1) := by decide +kernel
theorem dX10_sends_7 : decode cX10_sends 7 = .ok (.iconst 1, 1) := by decide +kernel
theorem dX10_sends_8 : decode cX10_sends 8 = .ok (.isub, 1) := by decide +kernel
theorem dX10_sends_9 : decode cX10_sends 9 = .ok (.iastore, 1) := by decide +kernel
theorem dX10_sends_10 : decode cX10_sends 10 = .ok (.aload_n 0, 1) := by decide +kernel
theorem dX10_sends_11 : decode cX10_sends 11 = .ok (.getfield 117, 3) := by decide +kernel
theorem dX10_sends_14 : decode cX10_sends 14 = .ok (.iload_n 2, 1) := by decide +kernel
theorem dX10_sends_15 : decode cX10_sends 15 = .ok (.dup2, 1) := by decide +kernel
theorem dX10_sends_16 : decode cX10_sends 16 = .ok (.iaload, 1) := by decide +kernel
theorem dX10_sends_17 : decode cX10_sends 17 = .ok (.iconst 1, 1) := by decide +kernel
theorem dX10_sends_18 : decode cX10_sends 18 = .ok (.isub, 1) := by decide +kernel
theorem dX10_sends_19 : decode cX10_sends 19 = .ok (.iastore, 1) := by decide +kernel
theorem dX10_sends_20 : decode cX10_sends 20 = .ok (.aload_n 0, 1) := by decide +kernel
theorem dX10_sends_21 : decode cX10_sends 21 = .ok (.getfield 36, 3) := by decide +kernel
theorem dX10_sends_24 : decode cX10_sends 24 = .ok (.iload_n 1, 1) := by decide +kernel
theorem dX10_sends_25 : decode cX10_sends 25 = .ok (.dup2, 1) := by decide +kernel
theorem dX10_sends_26 : decode cX10_sends 26 = .ok (.iaload, 1) := by decide +kernel
theorem dX10_sends_27 : decode cX10_sends 27 = .ok (.iconst 1, 1) := by decide +kernel
theorem dX10_sends_28 : decode cX10_sends 28 = .ok (.iadd, 1) := by decide +kernel
theorem dX10_sends_29 : decode cX10_sends 29 = .ok (.iastore, 1) := by decide +kernel
theorem dX10_sends_30 : decode cX10_sends 30 = .ok (.aload_n 0, 1) := by decide +kernel
theorem dX10_sends_31 : decode cX10_sends 31 = .ok (.dup, 1) := by decide +kernel
theorem dX10_sends_32 : decode cX10_sends 32 = .ok (.getfield 221, 3) := by decide +kernel
theorem dX10_sends_35 : decode cX10_sends 35 = .ok (.iconst 1, 1) := by decide +kernel
theorem dX10_sends_36 : decode cX10_sends 36 = .ok (.iadd, 1) := by decide +kernel
theorem dX10_sends_37 : decode cX10_sends 37 = .ok (.putfield 221, 3) := by decide +kernel
theorem dX10_sends_40 : decode cX10_sends 40 = .ok (.aload_n 0, 1) := by decide +kernel
theorem dX10_sends_41 : decode cX10_sends 41 = .ok (.getfield 75, 3) := by decide +kernel
theorem dX10_sends_44 : decode cX10_sends 44 = .ok (.iload_n 1, 1) := by decide +kernel
theorem dX10_sends_45 : decode cX10_sends 45 = .ok (.iload_n 2, 1) := by decide +kernel
theorem dX10_sends_46 : decode cX10_sends 46 = .ok (.invokestatic 151, 3) := by decide +kernel
theorem dX10_sends_49 : decode cX10_sends 49 = .ok (.dup2, 1) := by decide +kernel
theorem dX10_sends_50 : decode cX10_sends 50 = .ok (.iaload, 1) := by decide +kernel
theorem dX10_sends_51 : decode cX10_sends 51 = .ok (.iconst 1, 1) := by decide +kernel
theorem dX10_sends_52 : decode cX10_sends 52 = .ok (.iadd, 1) := by decide +kernel
theorem dX10_sends_53 : decode cX10_sends 53 = .ok (.iastore, 1) := by decide +kernel
theorem dX10_sends_54 : decode cX10_sends 54 = .ok (.aload_n 0, 1) := by decide +kernel
theorem dX10_sends_55 : decode cX10_sends 55 = .ok (.getfield 78, 3) := by decide +kernel
theorem dX10_sends_58 : decode cX10_sends 58 = .ok (.iload_n 1, 1) := by decide +kernel
theorem dX10_sends_59 : decode cX10_sends 59 = .ok (.iload_n 2, 1) := by decide +kernel
theorem dX10_sends_60 : decode cX10_sends 60 = .ok (.invokestatic 151, 3) := by decide +kernel
theorem dX10_sends_63 : decode cX10_sends 63 = .ok (.dup2, 1) := by decide +kernel
theorem dX10_sends_64 : decode cX10_sends 64 = .ok (.iaload, 1) := by decide +kernel
theorem dX10_sends_65 : decode cX10_sends 65 = .ok (.iconst 1, 1) := by decide +kernel
theorem dX10_sends_66 : decode cX10_sends 66 = .ok (.iadd, 1) := by decide +kernel
theorem dX10_sends_67 : decode cX10_sends 67 = .ok (.iastore, 1) := by decide +kernel
theorem dX10_sends_68 : decode cX10_sends 68 = .ok (.aload_n 0, 1) := by decide +kernel
theorem dX10_sends_69 : decode cX10_sends 69 = .ok (.getfield 90, 3) := by decide +kernel
theorem dX10_sends_72 : decode cX10_sends 72 = .ok (.aload_n 0, 1) := by decide +kernel
theorem dX10_sends_73 : decode cX10_sends 73 = .ok (.getfield 170, 3) := by decide +kernel
theorem dX10_sends_76 : decode cX10_sends 76 = .ok (.iload_n 2, 1) := by decide +kernel
theorem dX10_sends_77 : decode cX10_sends 77 = .ok (.iastore, 1) := by decide +kernel
theorem dX10_sends_78 : decode cX10_sends 78 = .ok (.aload_n 0, 1) := by decide +kernel
theorem dX10_sends_79 : decode cX10_sends 79 = .ok (.getfield 93, 3) := by decide +kernel
theorem dX10_sends_82 : decode cX10_sends 82 = .ok (.aload_n 0, 1) := by decide +kernel
theorem dX10_sends_83 : decode cX10_sends 83 = .ok (.getfield 170, 3) := by decide +kernel
theorem dX10_sends_86 : decode cX10_sends 86 = .ok (.iload_n 1, 1) := by decide +kernel
theorem dX10_sends_87 : decode cX10_sends 87 = .ok (.iastore, 1) := by decide +kernel
theorem dX10_sends_88 : decode cX10_sends 88 = .ok (.aload_n 0, 1) := by decide +kernel
theorem dX10_sends_89 : decode cX10_sends 89 = .ok (.getfield 96, 3) := by decide +kernel
theorem dX10_sends_92 : decode cX10_sends 92 = .ok (.aload_n 0, 1) := by decide +kernel
theorem dX10_sends_93 : decode cX10_sends 93 = .ok (.getfield 170, 3) := by decide +kernel
theorem dX10_sends_96 : decode cX10_sends 96 = .ok (.iload_n 3, 1) := by decide +kernel
theorem dX10_sends_97 : decode cX10_sends 97 = .ok (.iastore, 1) := by decide +kernel
theorem dX10_sends_98 : decode cX10_sends 98 = .ok (.aload_n 0, 1) := by decide +kernel
theorem dX10_sends_99 : decode cX10_sends 99 = .ok (.getfield 99, 3) := by decide +kernel
theorem dX10_sends_102 : decode cX10_sends 102 = .ok (.aload_n 0, 1) := by decide +kernel
theorem dX10_sends_103 : decode cX10_sends 103 = .ok (.getfield 170, 3) := by decide +kernel
theorem dX10_sends_106 : decode cX10_sends 106 = .ok (.iload 4, 2) := by decide +kernel
theorem dX10_sends_108 : decode cX10_sends 108 = .ok (.iastore, 1) := by decide +kernel
theorem dX10_sends_109 : decode cX10_sends 109 = .ok (.aload_n 0, 1) := by decide +kernel
theorem dX10_sends_110 : decode cX10_sends 110 = .ok (.getfield 102, 3) := by decide +kernel
theorem dX10_sends_113 : decode cX10_sends 113 = .ok (.aload_n 0, 1) := by decide +kernel
theorem dX10_sends_114 : decode cX10_sends 114 = .ok (.getfield 170, 3) := by decide +kernel
theorem dX10_sends_117 : decode cX10_sends 117 = .ok (.aload_n 0, 1) := by decide +kernel
theorem dX10_sends_118 : decode cX10_sends 118 = .ok (.iload_n 3, 1) := by decide +kernel
theorem dX10_sends_119 : decode cX10_sends 119 = .ok (.iload 4, 2) := by decide +kernel
theorem dX10_sends_121 : decode cX10_sends 121 = .ok (.invokevirtual 128, 3) := by decide +kernel
theorem dX10_sends_124 : decode cX10_sends 124 = .ok (.aload_n 0, 1) := by decide +kernel
theorem dX10_sends_125 : decode cX10_sends 125 = .ok (.getfield 16, 3) := by decide +kernel
theorem dX10_sends_128 : decode cX10_sends 128 = .ok (.iload_n 1, 1) := by decide +kernel
theorem dX10_sends_129 : decode cX10_sends 129 = .ok (.iaload, 1) := by decide +kernel
theorem dX10_sends_130 : decode cX10_sends 130 = .ok (.iconst 3, 1) := by decide +kernel
theorem dX10_sends_131 : decode cX10_sends 131 = .ok (.if_icmp .ne 23, 3) := by decide +kernel
theorem dX10_sends_134 : decode cX10_sends 134 = .ok (.aload_n 0, 1) := by decide +kernel
theorem dX10_sends_135 : decode cX10_sends 135 = .ok (.getfield 36, 3) := by decide +kernel
theorem dX10_sends_138 : decode cX10_sends 138 = .ok (.iload_n 1, 1) := by decide +kernel
theorem dX10_sends_139 : decode cX10_sends 139 = .ok (.iaload, 1) := by decide +kernel
theorem dX10_sends_140 : decode cX10_sends 140 = .ok (.aload_n 0, 1) := by decide +kernel
theorem dX10_sends_141 : decode cX10_sends 141 = .ok (.getfield 30, 3) := by decide +kernel
theorem dX10_sends_144 : decode cX10_sends 144 = .ok (.iload_n 1, 1) := by decide +kernel
theorem dX10_sends_145 : decode cX10_sends 145 = .ok (.iaload, 1) := by decide +kernel
theorem dX10_sends_146 : decode cX10_sends 146 = .ok (.irem, 1) := by decide +kernel
theorem dX10_sends_147 : decode cX10_sends 147 = .ok (.ifCond .ne 7, 3) := by decide +kernel
theorem dX10_sends_150 : decode cX10_sends 150 = .ok (.iconst 1, 1) := by decide +kernel
theorem dX10_sends_151 : decode cX10_sends 151 = .ok (.goto 4, 3) := by decide +kernel
theorem dX10_sends_154 : decode cX10_sends 154 = .ok (.iconst 0, 1) := by decide +kernel
theorem dX10_sends_155 : decode cX10_sends 155 = .ok (.ixor, 1) := by decide +kernel
theorem dX10_sends_156 : decode cX10_sends 156 = .ok (.iastore, 1) := by decide +kernel
theorem dX10_sends_157 : decode cX10_sends 157 = .ok (.aload_n 0, 1) := by decide +kernel
theorem dX10_sends_158 : decode cX10_sends 158 = .ok (.getfield 105, 3) := by decide +kernel
theorem dX10_sends_161 : decode cX10_sends 161 = .ok (.aload_n 0, 1) := by decide +kernel
theorem dX10_sends_162 : decode cX10_sends 162 = .ok (.getfield 170, 3) := by decide +kernel
theorem dX10_sends_165 : decode cX10_sends 165 = .ok (.aload_n 0, 1) := by decide +kernel
theorem dX10_sends_166 : decode cX10_sends 166 = .ok (.getfield 16, 3) := by decide +kernel
theorem dX10_sends_169 : decode cX10_sends 169 = .ok (.iload_n 1, 1) := by decide +kernel
theorem dX10_sends_170 : decode cX10_sends 170 = .ok (.iaload, 1) := by decide +kernel
theorem dX10_sends_171 : decode cX10_sends 171 = .ok (.iconst 4, 1) := by decide +kernel
theorem dX10_sends_172 : decode cX10_sends 172 = .ok (.if_icmp .ne 12, 3) := by decide +kernel
theorem dX10_sends_175 : decode cX10_sends 175 = .ok (.aload_n 0, 1) := by decide +kernel
theorem dX10_sends_176 : decode cX10_sends 176 = .ok (.getfield 202, 3) := by decide +kernel
theorem dX10_sends_179 : decode cX10_sends 179 = .ok (.iconst 2, 1) := by decide +kernel
theorem dX10_sends_180 : decode cX10_sends 180 = .ok (.iadd, 1) := by decide +kernel
theorem dX10_sends_181 : decode cX10_sends 181 = .ok (.goto 7, 3) := by decide +kernel
theorem dX10_sends_184 : decode cX10_sends 184 = .ok (.aload_n 0, 1) := by decide +kernel
theorem dX10_sends_185 : decode cX10_sends 185 = .ok (.getfield 202, 3) := by decide +kernel
theorem dX10_sends_188 : decode cX10_sends 188 = .ok (.iastore, 1) := by decide +kernel
theorem dX10_sends_189 : decode cX10_sends 189 = .ok (.aload_n 0, 1) := by decide +kernel
theorem dX10_sends_190 : decode cX10_sends 190 = .ok (.getfield 108, 3) := by decide +kernel
theorem dX10_sends_193 : decode cX10_sends 193 = .ok (.aload_n 0, 1) := by decide +kernel
theorem dX10_sends_194 : decode cX10_sends 194 = .ok (.getfield 170, 3) := by decide +kernel
theorem dX10_sends_197 : decode cX10_sends 197 = .ok (.aload_n 0, 1) := by decide +kernel
theorem dX10_sends_198 : decode cX10_sends 198 = .ok (.getfield 16, 3) := by decide +kernel
theorem dX10_sends_201 : decode cX10_sends 201 = .ok (.iload_n 1, 1) := by decide +kernel
theorem dX10_sends_202 : decode cX10_sends 202 = .ok (.iaload, 1) := by decide +kernel
theorem dX10_sends_203 : decode cX10_sends 203 = .ok (.iconst 4, 1) := by decide +kernel
theorem dX10_sends_204 : decode cX10_sends 204 = .ok (.if_icmp .eq 7, 3) := by decide +kernel
theorem dX10_sends_207 : decode cX10_sends 207 = .ok (.iconst 1, 1) := by decide +kernel
theorem dX10_sends_208 : decode cX10_sends 208 = .ok (.goto 4, 3) := by decide +kernel
theorem dX10_sends_211 : decode cX10_sends 211 = .ok (.iconst 0, 1) := by decide +kernel
theorem dX10_sends_212 : decode cX10_sends 212 = .ok (.bastore, 1) := by decide +kernel
theorem dX10_sends_213 : decode cX10_sends 213 = .ok (.aload_n 0, 1) := by decide +kernel
theorem dX10_sends_214 : decode cX10_sends 214 = .ok (.dup, 1) := by decide +kernel
theorem dX10_sends_215 : decode cX10_sends 215 = .ok (.getfield 170, 3) := by decide +kernel
theorem dX10_sends_218 : decode cX10_sends 218 = .ok (.iconst 1, 1) := by decide +kernel
theorem dX10_sends_219 : decode cX10_sends 219 = .ok (.iadd, 1) := by decide +kernel
theorem dX10_sends_220 : decode cX10_sends 220 = .ok (.putfield 170, 3) := by decide +kernel
theorem dX10_sends_223 : decode cX10_sends 223 = .ok (.return_, 1) := by decide +kernel
set_option maxRecDepth 20000 in
theorem ggX10_asks_X10_nextBlock : GoodIn wsX10_asks wsX10_nextBlock := goodIn_r _ [10, 3, 5, 11, 12, 9, 13, 14, 15, 16, 17, 18, 19, 20, 21, 90, 91, 92, 93, 94, 95, 96, 97, 98, 99, 100, 101, 102, 103, 104, 105, 106, 107, 108, 109, 110, 111, 112, 113, 114, 115, 116, 117, 118, 119, 120, 121, 122, 123, 124, 125, 126, 127, 128, 129, 130, 131, 132, 133, 134] (by decide +kernel) (by decide +kernel)
set_option maxRecDepth 20000 in
theorem gX10_asks_X10_nextBlock : GoodIn wsX10_asks (wsV RX10 224 RX10 yX10_nextBlock wsX10_nextBlock) := goodIn_app (goodIn_of _ (by decide +kernel)) ggX10_asks_X10_nextBlock
set_option maxRecDepth 20000 in
theorem ggX10_asks_X10_bound : GoodIn wsX10_asks wsX10_bound := goodIn_r _ [25, 4, 3, 5, 26, 18, 19, 20, 27, 11, 12, 9, 13, 90, 91, 92, 93, 94, 95, 96, 97, 98, 99, 100, 101, 102, 103, 104, 105, 106, 107, 108, 109, 110, 111, 112, 113, 114, 115, 116, 117, 118, 119, 120, 121, 122, 123, 124, 125, 126, 127, 128, 129, 130, 131, 132, 133, 134] (by decide +kernel) (by decide +kernel)
set_option maxRecDepth 20000 in
theorem gX10_asks_X10_bound : GoodIn wsX10_asks (wsV RX10 227 RX10 yX10_bound wsX10_bound) := goodIn_app (goodIn_of _ (by decide +kernel)) ggX10_asks_X10_bound
set_option maxRecDepth 20000 in
theorem ggX10_asks_X10_giver : GoodIn wsX10_asks wsX10_giver := goodIn_r _ [31, 32, 33, 34, 35, 36, 9, 37, 38, 39, 40, 41, 42, 43, 44, 45, 46, 47, 48, 49, 50, 51, 52, 2, 53, 90, 91, 92, 93, 94, 95, 96, 97, 98, 99, 100, 101, 102, 103, 104, 105, 106, 107, 108, 109, 110, 111, 112, 113, 114, 115, 116, 117, 118, 119, 120, 121, 122, 123, 124, 125, 126, 127, 128, 129, 130, 131, 132, 133, 134] (by decide +kernel) (by decide +kernel)
set_option maxRecDepth 20000 in
theorem gX10_asks_X10_giver : GoodIn wsX10_asks (wsV RX10 231 RX10 yX10_giver wsX10_giver) := goodIn_app (goodIn_of _ (by decide +kernel)) ggX10_asks_X10_giver
set_option maxRecDepth 20000 in
theorem ggX10_asks_X10_isBegun : GoodIn wsX10_asks wsX10_isBegun := goodIn_r _ [57, 3, 58, 59, 60, 9, 61, 5, 11, 12, 13, 14, 15, 16, 17, 18, 19, 20, 21, 90, 91, 92, 93, 94, 95, 96, 97, 98, 99, 100, 101, 102, 103, 104, 105, 106, 107, 108, 109, 110, 111, 112, 113, 114, 115, 116, 117, 118, 119, 120, 121, 122, 123, 124, 125, 126, 127, 128, 129, 130, 131, 132, 133, 134] (by decide +kernel) (by decide +kernel)
set_option maxRecDepth 20000 in
theorem gX10_asks_X10_isBegun : GoodIn wsX10_asks (wsV RX10 235 RX10 yX10_isBegun wsX10_isBegun) := goodIn_app (goodIn_of _ (by decide +kernel)) ggX10_asks_X10_isBegun
set_option maxRecDepth 20000 in
theorem ggX10_asks_X10_tellers : GoodIn wsX10_asks wsX10_tellers := goodIn_r _ [65, 32, 39, 40, 41, 9, 42, 43, 44, 45, 46, 47, 48, 49, 50, 51, 52, 2, 53, 90, 91, 92, 93, 94, 95, 96, 97, 98, 99, 100, 101, 102, 103, 104, 105, 106, 107, 108, 109, 110, 111, 112, 113, 114, 115, 116, 117, 118, 119, 120, 121, 122, 123, 124, 125, 126, 127, 128, 129, 130, 131, 132, 133, 134] (by decide +kernel) (by decide +kernel)
set_option maxRecDepth 20000 in
theorem gX10_asks_X10_tellers : GoodIn wsX10_asks (wsV RX10 238 RX10 yX10_tellers wsX10_tellers) := goodIn_app (goodIn_of _ (by decide +kernel)) ggX10_asks_X10_tellers
set_option maxRecDepth 20000 in
theorem ggX10_asks_X10_sends : GoodIn wsX10_asks wsX10_sends := goodIn_r _ [69, 33, 70, 71, 72, 73, 74, 19, 18, 27, 20, 21, 75, 53, 76, 77, 78, 79, 46, 47, 9, 48, 80, 81, 82, 83, 84, 85, 90, 91, 92, 93, 94, 95, 96, 97, 98, 99, 100, 101, 102, 103, 104, 105, 106, 107, 108, 109, 110, 111, 112, 113, 114, 115, 116, 117, 118, 119, 120, 121, 122, 123, 124, 125, 126, 127, 128, 129, 130, 131, 132, 133, 134] (by decide +kernel) (by decide +kernel)
set_option maxRecDepth 20000 in
theorem gX10_asks_X10_sends : GoodIn wsX10_asks (wsV RX10 241 RX10 yX10_sends wsX10_sends) := goodIn_app (goodIn_of _ (by decide +kernel)) ggX10_asks_X10_sends
set_option maxRecDepth 20000 in
theorem ggX10_asks_X10_cell : GoodIn wsX10_asks wsX10_cell := goodIn_r _ [13] (by decide +kernel) (by decide +kernel)
set_option maxRecDepth 20000 in
theorem gX10_asks_X10_cell : GoodIn wsX10_asks (va_wsS RX10 163 yX10_cell wsX10_cell) := goodIn_app (goodIn_of _ (by decide +kernel)) ggX10_asks_X10_cell
set_option maxRecDepth 20000 in
theorem ggX10_asks_X10_coming : GoodIn wsX10_asks wsX10_coming := goodIn_r _ [17, 18, 19, 20, 21, 90, 91, 92, 93, 94, 95, 96, 97, 98, 99, 100, 101, 102, 103, 104, 105, 106, 107, 108, 109, 110, 111, 112, 113, 114, 115, 116, 117, 118, 119, 120, 121, 122, 123, 124, 125, 126, 127, 128, 129, 130, 131, 132, 133, 134] (by decide +kernel) (by decide +kernel)
set_option maxRecDepth 20000 in
theorem gX10_asks_X10_coming : GoodIn wsX10_asks (wsV RX10 218 RX10 yX10_coming wsX10_coming) := goodIn_app (goodIn_of _ (by decide +kernel)) ggX10_asks_X10_coming
set_option maxRecDepth 20000 in
theorem ggX10_asks_X10_senderOf : GoodIn wsX10_asks wsX10_senderOf := goodIn_r _ [89, 19, 20, 21, 27, 90, 91, 92, 93, 94, 95, 96, 97, 98, 99, 100, 101, 102, 103, 104, 105, 106, 107, 108, 109, 110, 111, 112, 113, 114, 115, 116, 117, 118, 119, 120, 121, 122, 123, 124, 125, 126, 127, 128, 129, 130, 131, 132, 133, 134] (by decide +kernel) (by decide +kernel)
set_option maxRecDepth 20000 in
theorem gX10_asks_X10_senderOf : GoodIn wsX10_asks (wsV RX10 245 RX10 yX10_senderOf wsX10_senderOf) := goodIn_app (goodIn_of _ (by decide +kernel)) ggX10_asks_X10_senderOf
theorem dX10_asks_0 : decode cX10_asks 0 = .ok (.iconst (-1), 1) := by decide +kernel
theorem dX10_asks_1 : decode cX10_asks 1 = .ok (.istore_n 2, 1) := by decide +kernel
theorem dX10_asks_2 : decode cX10_asks 2 = .ok (.iconst 0, 1) := by decide +kernel
theorem dX10_asks_3 : decode cX10_asks 3 = .ok (.istore_n 3, 1) := by decide +kernel
theorem dX10_asks_4 : decode cX10_asks 4 = .ok (.iconst 0, 1) := by decide +kernel
theorem dX10_asks_5 : decode cX10_asks 5 = .ok (.istore 4, 2) := by decide +kernel
theorem dX10_asks_7 : decode cX10_asks 7 = .ok (.iconst 0, 1) := by decide +kernel
theorem dX10_asks_8 : decode cX10_asks 8 = .ok (.istore 5, 2) := by decide +kernel
theorem dX10_asks_10 : decode cX10_asks 10 = .ok (.iload 5, 2) := by decide +kernel
theorem dX10_asks_12 : decode cX10_asks 12 = .ok (.aload_n 0, 1) := by decide +kernel
theorem dX10_asks_13 : decode cX10_asks 13 = .ok (.getfield 7, 3) := by decide +kernel
theorem dX10_asks_16 : decode cX10_asks 16 = .ok (.if_icmp .ge 117, 3) := by decide +kernel
theorem dX10_asks_19 : decode cX10_asks 19 = .ok (.aload_n 0, 1) := by decide +kernel
theorem dX10_asks_20 : decode cX10_asks 20 = .ok (.getfield 48, 3) := by decide +kernel
theorem dX10_asks_23 : decode cX10_asks 23 = .ok (.bipush 24, 2) := by decide +kernel
theorem dX10_asks_25 : decode cX10_asks 25 = .ok (.iload_n 1, 1) := by decide +kernel
theorem dX10_asks_26 : decode cX10_asks 26 = .ok (.imul, 1) := by decide +kernel
theorem dX10_asks_27 : decode cX10_asks 27 = .ok (.iload 5, 2) := by decide +kernel
theorem dX10_asks_29 : decode cX10_asks 29 = .ok (.iadd, 1) := by decide +kernel
theorem dX10_asks_30 : decode cX10_asks 30 = .ok (.baload, 1) := by decide +kernel
theorem dX10_asks_31 : decode cX10_asks 31 = .ok (.ifCond .ne 96, 3) := by decide +kernel
theorem dX10_asks_34 : decode cX10_asks 34 = .ok (.aload_n 0, 1) := by decide +kernel
theorem dX10_asks_35 : decode cX10_asks 35 = .ok (.iload_n 1, 1) := by decide +kernel
theorem dX10_asks_36 : decode cX10_asks 36 = .ok (.iload 5, 2) := by decide +kernel
theorem dX10_asks_38 : decode cX10_asks 38 = .ok (.invokevirtual 224, 3) := by decide +kernel
theorem dX10_asks_41 : decode cX10_asks 41 = .ok (.iconst (-1), 1) := by decide +kernel
theorem dX10_asks_42 : decode cX10_asks 42 = .ok (.if_icmp .eq 85, 3) := by decide +kernel
theorem dX10_asks_45 : decode cX10_asks 45 = .ok (.aload_n 0, 1) := by decide +kernel
theorem dX10_asks_46 : decode cX10_asks 46 = .ok (.iload_n 1, 1) := by decide +kernel
theorem dX10_asks_47 : decode cX10_asks 47 = .ok (.iload 5, 2) := by decide +kernel
theorem dX10_asks_49 : decode cX10_asks 49 = .ok (.aload_n 0, 1) := by decide +kernel
theorem dX10_asks_50 : decode cX10_asks 50 = .ok (.iload_n 1, 1) := by decide +kernel
theorem dX10_asks_51 : decode cX10_asks 51 = .ok (.iload 5, 2) := by decide +kernel
theorem dX10_asks_53 : decode cX10_asks 53 = .ok (.iconst 1, 1) := by decide +kernel
theorem dX10_asks_54 : decode cX10_asks 54 = .ok (.invokevirtual 227, 3) := by decide +kernel
theorem dX10_asks_57 : decode cX10_asks 57 = .ok (.iconst (-1), 1) := by decide +kernel
theorem dX10_asks_58 : decode cX10_asks 58 = .ok (.invokevirtual 231, 3) := by decide +kernel
theorem dX10_asks_61 : decode cX10_asks 61 = .ok (.iconst (-1), 1) := by decide +kernel
theorem dX10_asks_62 : decode cX10_asks 62 = .ok (.if_icmp .ne 6, 3) := by decide +kernel
theorem dX10_asks_65 : decode cX10_asks 65 = .ok (.goto 62, 3) := by decide +kernel
theorem dX10_asks_68 : decode cX10_asks 68 = .ok (.aload_n 0, 1) := by decide +kernel
theorem dX10_asks_69 : decode cX10_asks 69 = .ok (.iload_n 1, 1) := by decide +kernel
theorem dX10_asks_70 : decode cX10_asks 70 = .ok (.iload 5, 2) := by decide +kernel
theorem dX10_asks_72 : decode cX10_asks 72 = .ok (.invokevirtual 235, 3) := by decide +kernel
theorem dX10_asks_75 : decode cX10_asks 75 = .ok (.istore 6, 2) := by decide +kernel
theorem dX10_asks_77 : decode cX10_asks 77 = .ok (.aload_n 0, 1) := by decide +kernel
theorem dX10_asks_78 : decode cX10_asks 78 = .ok (.iload_n 1, 1) := by decide +kernel
theorem dX10_asks_79 : decode cX10_asks 79 = .ok (.iload 5, 2) := by decide +kernel
theorem dX10_asks_81 : decode cX10_asks 81 = .ok (.invokevirtual 238, 3) := by decide +kernel
theorem dX10_asks_84 : decode cX10_asks 84 = .ok (.istore 7, 2) := by decide +kernel
theorem dX10_asks_86 : decode cX10_asks 86 = .ok (.iload_n 2, 1) := by decide +kernel
theorem dX10_asks_87 : decode cX10_asks 87 = .ok (.iconst (-1), 1) := by decide +kernel
theorem dX10_asks_88 : decode cX10_asks 88 = .ok (.if_icmp .eq 29, 3) := by decide +kernel
theorem dX10_asks_91 : decode cX10_asks 91 = .ok (.iload 4, 2) := by decide +kernel
theorem dX10_asks_93 : decode cX10_asks 93 = .ok (.ifCond .eq 8, 3) := by decide +kernel
theorem dX10_asks_96 : decode cX10_asks 96 = .ok (.iload 6, 2) := by decide +kernel
theorem dX10_asks_98 : decode cX10_asks 98 = .ok (.ifCond .eq 29, 3) := by decide +kernel
theorem dX10_asks_101 : decode cX10_asks 101 = .ok (.iload 4, 2) := by decide +kernel
theorem dX10_asks_103 : decode cX10_asks 103 = .ok (.iload 6, 2) := by decide +kernel
theorem dX10_asks_105 : decode cX10_asks 105 = .ok (.if_icmp .ne 12, 3) := by decide +kernel
theorem dX10_asks_108 : decode cX10_asks 108 = .ok (.iload 7, 2) := by decide +kernel
theorem dX10_asks_110 : decode cX10_asks 110 = .ok (.iload_n 3, 1) := by decide +kernel
theorem dX10_asks_111 : decode cX10_asks 111 = .ok (.if_icmp .lt 6, 3) := by decide +kernel
theorem dX10_asks_114 : decode cX10_asks 114 = .ok (.goto 13, 3) := by decide +kernel
theorem dX10_asks_117 : decode cX10_asks 117 = .ok (.iload 5, 2) := by decide +kernel
theorem dX10_asks_119 : decode cX10_asks 119 = .ok (.istore_n 2, 1) := by decide +kernel
theorem dX10_asks_120 : decode cX10_asks 120 = .ok (.iload 7, 2) := by decide +kernel
theorem dX10_asks_122 : decode cX10_asks 122 = .ok (.istore_n 3, 1) := by decide +kernel
theorem dX10_asks_123 : decode cX10_asks 123 = .ok (.iload 6, 2) := by decide +kernel
theorem dX10_asks_125 : decode cX10_asks 125 = .ok (.istore 4, 2) := by decide +kernel
theorem dX10_asks_127 : decode cX10_asks 127 = .ok (.iinc 5 1, 3) := by decide +kernel
theorem dX10_asks_130 : decode cX10_asks 130 = .ok (.goto (-120), 3) := by decide +kernel
theorem dX10_asks_133 : decode cX10_asks 133 = .ok (.iload_n 2, 1) := by decide +kernel
theorem dX10_asks_134 : decode cX10_asks 134 = .ok (.iconst (-1), 1) := by decide +kernel
theorem dX10_asks_135 : decode cX10_asks 135 = .ok (.if_icmp .eq 31, 3) := by decide +kernel
theorem dX10_asks_138 : decode cX10_asks 138 = .ok (.aload_n 0, 1) := by decide +kernel
theorem dX10_asks_139 : decode cX10_asks 139 = .ok (.aload_n 0, 1) := by decide +kernel
theorem dX10_asks_140 : decode cX10_asks 140 = .ok (.iload_n 1, 1) := by decide +kernel
theorem dX10_asks_141 : decode cX10_asks 141 = .ok (.iload_n 2, 1) := by decide +kernel
theorem dX10_asks_142 : decode cX10_asks 142 = .ok (.aload_n 0, 1) := by decide +kernel
theorem dX10_asks_143 : decode cX10_asks 143 = .ok (.iload_n 1, 1) := by decide +kernel
theorem dX10_asks_144 : decode cX10_asks 144 = .ok (.iload_n 2, 1) := by decide +kernel
theorem dX10_asks_145 : decode cX10_asks 145 = .ok (.iconst 1, 1) := by decide +kernel
theorem dX10_asks_146 : decode cX10_asks 146 = .ok (.invokevirtual 227, 3) := by decide +kernel
theorem dX10_asks_149 : decode cX10_asks 149 = .ok (.iconst (-1), 1) := by decide +kernel
theorem dX10_asks_150 : decode cX10_asks 150 = .ok (.invokevirtual 231, 3) := by decide +kernel
theorem dX10_asks_153 : decode cX10_asks 153 = .ok (.iload_n 1, 1) := by decide +kernel
theorem dX10_asks_154 : decode cX10_asks 154 = .ok (.iload_n 2, 1) := by decide +kernel
theorem dX10_asks_155 : decode cX10_asks 155 = .ok (.aload_n 0, 1) := by decide +kernel
theorem dX10_asks_156 : decode cX10_asks 156 = .ok (.iload_n 1, 1) := by decide +kernel
theorem dX10_asks_157 : decode cX10_asks 157 = .ok (.iload_n 2, 1) := by decide +kernel
theorem dX10_asks_158 : decode cX10_asks 158 = .ok (.invokevirtual 224, 3) := by decide +kernel
theorem dX10_asks_161 : decode cX10_asks 161 = .ok (.invokevirtual 241, 3) := by decide +kernel
theorem dX10_asks_164 : decode cX10_asks 164 = .ok (.iconst 1, 1) := by decide +kernel
theorem dX10_asks_165 : decode cX10_asks 165 = .ok (.ireturn, 1) := by decide +kernel
theorem dX10_asks_166 : decode cX10_asks 166 = .ok (.iconst 0, 1) := by decide +kernel
theorem dX10_asks_167 : decode cX10_asks 167 = .ok (.istore 5, 2) := by decide +kernel
theorem dX10_asks_169 : decode cX10_asks 169 = .ok (.iload 5, 2) := by decide +kernel
theorem dX10_asks_171 : decode cX10_asks 171 = .ok (.aload_n 0, 1) := by decide +kernel
theorem dX10_asks_172 : decode cX10_asks 172 = .ok (.getfield 7, 3) := by decide +kernel
theorem dX10_asks_175 : decode cX10_asks 175 = .ok (.if_icmp .ge 130, 3) := by decide +kernel
theorem dX10_asks_178 : decode cX10_asks 178 = .ok (.iconst 0, 1) := by decide +kernel
theorem dX10_asks_179 : decode cX10_asks 179 = .ok (.istore 6, 2) := by decide +kernel
theorem dX10_asks_181 : decode cX10_asks 181 = .ok (.iload 6, 2) := by decide +kernel
theorem dX10_asks_183 : decode cX10_asks 183 = .ok (.aload_n 0, 1) := by decide +kernel
theorem dX10_asks_184 : decode cX10_asks 184 = .ok (.getfield 13, 3) := by decide +kernel
theorem dX10_asks_187 : decode cX10_asks 187 = .ok (.if_icmp .ge 112, 3) := by decide +kernel
theorem dX10_asks_190 : decode cX10_asks 190 = .ok (.aload_n 0, 1) := by decide +kernel
theorem dX10_asks_191 : decode cX10_asks 191 = .ok (.getfield 48, 3) := by decide +kernel
theorem dX10_asks_194 : decode cX10_asks 194 = .ok (.bipush 24, 2) := by decide +kernel
theorem dX10_asks_196 : decode cX10_asks 196 = .ok (.iload_n 1, 1) := by decide +kernel
theorem dX10_asks_197 : decode cX10_asks 197 = .ok (.imul, 1) := by decide +kernel
theorem dX10_asks_198 : decode cX10_asks 198 = .ok (.iload 5, 2) := by decide +kernel
theorem dX10_asks_200 : decode cX10_asks 200 = .ok (.iadd, 1) := by decide +kernel
theorem dX10_asks_201 : decode cX10_asks 201 = .ok (.baload, 1) := by decide +kernel
theorem dX10_asks_202 : decode cX10_asks 202 = .ok (.ifCond .ne 91, 3) := by decide +kernel
theorem dX10_asks_205 : decode cX10_asks 205 = .ok (.aload_n 0, 1) := by decide +kernel
theorem dX10_asks_206 : decode cX10_asks 206 = .ok (.getfield 51, 3) := by decide +kernel
theorem dX10_asks_209 : decode cX10_asks 209 = .ok (.bipush 24, 2) := by decide +kernel
theorem dX10_asks_211 : decode cX10_asks 211 = .ok (.iload_n 1, 1) := by decide +kernel
theorem dX10_asks_212 : decode cX10_asks 212 = .ok (.imul, 1) := by decide +kernel
theorem dX10_asks_213 : decode cX10_asks 213 = .ok (.iload 5, 2) := by decide +kernel
theorem dX10_asks_215 : decode cX10_asks 215 = .ok (.iadd, 1) := by decide +kernel
theorem dX10_asks_216 : decode cX10_asks 216 = .ok (.baload, 1) := by decide +kernel
theorem dX10_asks_217 : decode cX10_asks 217 = .ok (.ifCond .ne 76, 3) := by decide +kernel
theorem dX10_asks_220 : decode cX10_asks 220 = .ok (.aload_n 0, 1) := by decide +kernel
theorem dX10_asks_221 : decode cX10_asks 221 = .ok (.getfield 54, 3) := by decide +kernel
theorem dX10_asks_224 : decode cX10_asks 224 = .ok (.iload_n 1, 1) := by decide +kernel
theorem dX10_asks_225 : decode cX10_asks 225 = .ok (.iload 5, 2) := by decide +kernel
theorem dX10_asks_227 : decode cX10_asks 227 = .ok (.iload 6, 2) := by decide +kernel
theorem dX10_asks_229 : decode cX10_asks 229 = .ok (.invokestatic 163, 3) := by decide +kernel
theorem dX10_asks_232 : decode cX10_asks 232 = .ok (.baload, 1) := by decide +kernel
theorem dX10_asks_233 : decode cX10_asks 233 = .ok (.ifCond .ne 60, 3) := by decide +kernel
theorem dX10_asks_236 : decode cX10_asks 236 = .ok (.aload_n 0, 1) := by decide +kernel
theorem dX10_asks_237 : decode cX10_asks 237 = .ok (.iload_n 1, 1) := by decide +kernel
theorem dX10_asks_238 : decode cX10_asks 238 = .ok (.iload 5, 2) := by decide +kernel
theorem dX10_asks_240 : decode cX10_asks 240 = .ok (.iload 6, 2) := by decide +kernel
theorem dX10_asks_242 : decode cX10_asks 242 = .ok (.invokevirtual 218, 3) := by decide +kernel
theorem dX10_asks_245 : decode cX10_asks 245 = .ok (.iconst 1, 1) := by decide +kernel
theorem dX10_asks_246 : decode cX10_asks 246 = .ok (.if_icmp .eq 6, 3) := by decide +kernel
theorem dX10_asks_249 : decode cX10_asks 249 = .ok (.goto 44, 3) := by decide +kernel
theorem dX10_asks_252 : decode cX10_asks 252 = .ok (.aload_n 0, 1) := by decide +kernel
theorem dX10_asks_253 : decode cX10_asks 253 = .ok (.iload_n 1, 1) := by decide +kernel
theorem dX10_asks_254 : decode cX10_asks 254 = .ok (.iload 5, 2) := by decide +kernel
theorem dX10_asks_256 : decode cX10_asks 256 = .ok (.iconst (-1), 1) := by decide +kernel
theorem dX10_asks_257 : decode cX10_asks 257 = .ok (.aload_n 0, 1) := by decide +kernel
theorem dX10_asks_258 : decode cX10_asks 258 = .ok (.iload_n 1, 1) := by decide +kernel
theorem dX10_asks_259 : decode cX10_asks 259 = .ok (.iload 5, 2) := by decide +kernel
theorem dX10_asks_261 : decode cX10_asks 261 = .ok (.iload 6, 2) := by decide +kernel
theorem dX10_asks_263 : decode cX10_asks 263 = .ok (.invokevirtual 245, 3) := by decide +kernel
theorem dX10_asks_266 : decode cX10_asks 266 = .ok (.invokevirtual 231, 3) := by decide +kernel
theorem dX10_asks_269 : decode cX10_asks 269 = .ok (.istore 7, 2) := by decide +kernel
theorem dX10_asks_271 : decode cX10_asks 271 = .ok (.iload 7, 2) := by decide +kernel
theorem dX10_asks_273 : decode cX10_asks 273 = .ok (.iconst (-1), 1) := by decide +kernel
theorem dX10_asks_274 : decode cX10_asks 274 = .ok (.if_icmp .ne 6, 3) := by decide +kernel
theorem dX10_asks_277 : decode cX10_asks 277 = .ok (.goto 16, 3) := by decide +kernel
theorem dX10_asks_280 : decode cX10_asks 280 = .ok (.aload_n 0, 1) := by decide +kernel
theorem dX10_asks_281 : decode cX10_asks 281 = .ok (.iload 7, 2) := by decide +kernel
theorem dX10_asks_283 : decode cX10_asks 283 = .ok (.iload_n 1, 1) := by decide +kernel
theorem dX10_asks_284 : decode cX10_asks 284 = .ok (.iload 5, 2) := by decide +kernel
theorem dX10_asks_286 : decode cX10_asks 286 = .ok (.iload 6, 2) := by decide +kernel
theorem dX10_asks_288 : decode cX10_asks 288 = .ok (.invokevirtual 241, 3) := by decide +kernel
theorem dX10_asks_291 : decode cX10_asks 291 = .ok (.iconst 1, 1) := by decide +kernel
theorem dX10_asks_292 : decode cX10_asks 292 = .ok (.ireturn, 1) := by decide +kernel
theorem dX10_asks_293 : decode cX10_asks 293 = .ok (.iinc 6 1, 3) := by decide +kernel
theorem dX10_asks_296 : decode cX10_asks 296 = .ok (.goto (-115), 3) := by decide +kernel
theorem dX10_asks_299 : decode cX10_asks 299 = .ok (.iinc 5 1, 3) := by decide +kernel
theorem dX10_asks_302 : decode cX10_asks 302 = .ok (.goto (-133), 3) := by decide +kernel
theorem dX10_asks_305 : decode cX10_asks 305 = .ok (.iconst 0, 1) := by decide +kernel
theorem dX10_asks_306 : decode cX10_asks 306 = .ok (.ireturn, 1) := by decide +kernel
theorem dX10_senderOf_0 : decode cX10_senderOf 0 = .ok (.iconst 0, 1) := by decide +kernel
theorem dX10_senderOf_1 : decode cX10_senderOf 1 = .ok (.istore 4, 2) := by decide +kernel
theorem dX10_senderOf_3 : decode cX10_senderOf 3 = .ok (.aload_n 0, 1) := by decide +kernel
theorem dX10_senderOf_4 : decode cX10_senderOf 4 = .ok (.getfield 90, 3) := by decide +kernel
theorem dX10_senderOf_7 : decode cX10_senderOf 7 = .ok (.iload 4, 2) := by decide +kernel
theorem dX10_senderOf_9 : decode cX10_senderOf 9 = .ok (.iaload, 1) := by decide +kernel
theorem dX10_senderOf_10 : decode cX10_senderOf 10 = .ok (.iload_n 1, 1) := by decide +kernel
theorem dX10_senderOf_11 : decode cX10_senderOf 11 = .ok (.if_icmp .ne 25, 3) := by decide +kernel
theorem dX10_senderOf_14 : decode cX10_senderOf 14 = .ok (.aload_n 0, 1) := by decide +kernel
theorem dX10_senderOf_15 : decode cX10_senderOf 15 = .ok (.getfield 96, 3) := by decide +kernel
theorem dX10_senderOf_18 : decode cX10_senderOf 18 = .ok (.iload 4, 2) := by decide +kernel
theorem dX10_senderOf_20 : decode cX10_senderOf 20 = .ok (.iaload, 1) := by decide +kernel
theorem dX10_senderOf_21 : decode cX10_senderOf 21 = .ok (.iload_n 2, 1) := by decide +kernel
theorem dX10_senderOf_22 : decode cX10_senderOf 22 = .ok (.if_icmp .ne 14, 3) := by decide +kernel
theorem dX10_senderOf_25 : decode cX10_senderOf 25 = .ok (.aload_n 0, 1) := by decide +kernel
theorem dX10_senderOf_26 : decode cX10_senderOf 26 = .ok (.getfield 99, 3) := by decide +kernel
theorem dX10_senderOf_29 : decode cX10_senderOf 29 = .ok (.iload 4, 2) := by decide +kernel
theorem dX10_senderOf_31 : decode cX10_senderOf 31 = .ok (.iaload, 1) := by decide +kernel
theorem dX10_senderOf_32 : decode cX10_senderOf 32 = .ok (.iload_n 3, 1) := by decide +kernel
theorem dX10_senderOf_33 : decode cX10_senderOf 33 = .ok (.if_icmp .eq 9, 3) := by decide +kernel
theorem dX10_senderOf_36 : decode cX10_senderOf 36 = .ok (.iinc 4 1, 3) := by decide +kernel
theorem dX10_senderOf_39 : decode cX10_senderOf 39 = .ok (.goto (-36), 3) := by decide +kernel
theorem dX10_senderOf_42 : decode cX10_senderOf 42 = .ok (.aload_n 0, 1) := by decide +kernel
theorem dX10_senderOf_43 : decode cX10_senderOf 43 = .ok (.getfield 93, 3) := by decide +kernel
theorem dX10_senderOf_46 : decode cX10_senderOf 46 = .ok (.iload 4, 2) := by decide +kernel
theorem dX10_senderOf_48 : decode cX10_senderOf 48 = .ok (.iaload, 1) := by decide +kernel
theorem dX10_senderOf_49 : decode cX10_senderOf 49 = .ok (.ireturn, 1) := by decide +kernel
set_option maxRecDepth 20000 in
theorem ggX10_forgets_X10_cell : GoodIn wsX10_forgets wsX10_cell := goodIn_r _ [10] (by decide +kernel) (by decide +kernel)
set_option maxRecDepth 20000 in
theorem gX10_forgets_X10_cell : GoodIn wsX10_forgets (va_wsS RX10 163 yX10_cell wsX10_cell) := goodIn_app (goodIn_of _ (by decide +kernel)) ggX10_forgets_X10_cell
set_option maxRecDepth 20000 in
theorem ggX10_forgets_X10_isNear : GoodIn wsX10_forgets wsX10_isNear := goodIn_r _ [14, 15, 16, 17, 18, 19, 9, 20, 25, 26, 27, 28, 29, 30, 31, 32, 33, 34, 35, 36, 37, 38, 39, 40, 41, 42, 43, 44, 45, 46, 47, 48, 49, 50, 51, 52, 53, 54, 55, 56, 57, 58, 59, 60, 61, 62, 63, 64, 65, 66, 67, 68, 69] (by decide +kernel) (by decide +kernel)
set_option maxRecDepth 20000 in
theorem gX10_forgets_X10_isNear : GoodIn wsX10_forgets (wsV RX10 154 RX10 yX10_isNear wsX10_isNear) := goodIn_app (goodIn_of _ (by decide +kernel)) ggX10_forgets_X10_isNear
set_option maxRecDepth 20000 in
theorem ggX10_forgets_X10_dropPiece : GoodIn wsX10_forgets wsX10_dropPiece := goodIn_r _ [24, 4, 5, 7, 8, 9, 10, 25, 26, 27, 28, 29, 30, 31, 32, 33, 34, 35, 36, 37, 38, 39, 40, 41, 42, 43, 44, 45, 46, 47, 48, 49, 50, 51, 52, 53, 54, 55, 56, 57, 58, 59, 60, 61, 62, 63, 64, 65, 66, 67, 68, 69] (by decide +kernel) (by decide +kernel)
set_option maxRecDepth 20000 in
theorem gX10_forgets_X10_dropPiece : GoodIn wsX10_forgets (wsV RX10 183 RX10 yX10_dropPiece wsX10_dropPiece) := goodIn_app (goodIn_of _ (by decide +kernel)) ggX10_forgets_X10_dropPiece
theorem dX10_forgets_0 : decode cX10_forgets 0 = .ok (.iconst 0, 1) := by decide +kernel
theorem dX10_forgets_1 : decode cX10_forgets 1 = .ok (.istore_n 2, 1) := by decide +kernel
theorem dX10_forgets_2 : decode cX10_forgets 2 = .ok (.iload_n 2, 1) := by decide +kernel
theorem dX10_forgets_3 : decode cX10_forgets 3 = .ok (.aload_n 0, 1) := by decide +kernel
theorem dX10_forgets_4 : decode cX10_forgets 4 = .ok (.getfield 7, 3) := by decide +kernel
theorem dX10_forgets_7 : decode cX10_forgets 7 = .ok (.if_icmp .ge 115, 3) := by decide +kernel
theorem dX10_forgets_10 : decode cX10_forgets 10 = .ok (.aload_n 0, 1) := by decide +kernel
theorem dX10_forgets_11 : decode cX10_forgets 11 = .ok (.getfield 48, 3) := by decide +kernel
theorem dX10_forgets_14 : decode cX10_forgets 14 = .ok (.bipush 24, 2) := by decide +kernel
theorem dX10_forgets_16 : decode cX10_forgets 16 = .ok (.iload_n 1, 1) := by decide +kernel
theorem dX10_forgets_17 : decode cX10_forgets 17 = .ok (.imul, 1) := by decide +kernel
theorem dX10_forgets_18 : decode cX10_forgets 18 = .ok (.iload_n 2, 1) := by decide +kernel
theorem dX10_forgets_19 : decode cX10_forgets 19 = .ok (.iadd, 1) := by decide +kernel
theorem dX10_forgets_20 : decode cX10_forgets 20 = .ok (.baload, 1) := by decide +kernel
theorem dX10_forgets_21 : decode cX10_forgets 21 = .ok (.ifCond .ne 95, 3) := by decide +kernel
theorem dX10_forgets_24 : decode cX10_forgets 24 = .ok (.aload_n 0, 1) := by decide +kernel
theorem dX10_forgets_25 : decode cX10_forgets 25 = .ok (.getfield 51, 3) := by decide +kernel
theorem dX10_forgets_28 : decode cX10_forgets 28 = .ok (.bipush 24, 2) := by decide +kernel
theorem dX10_forgets_30 : decode cX10_forgets 30 = .ok (.iload_n 1, 1) := by decide +kernel
theorem dX10_forgets_31 : decode cX10_forgets 31 = .ok (.imul, 1) := by decide +kernel
theorem dX10_forgets_32 : decode cX10_forgets 32 = .ok (.iload_n 2, 1) := by decide +kernel
theorem dX10_forgets_33 : decode cX10_forgets 33 = .ok (.iadd, 1) := by decide +kernel
theorem dX10_forgets_34 : decode cX10_forgets 34 = .ok (.baload, 1) := by decide +kernel
theorem dX10_forgets_35 : decode cX10_forgets 35 = .ok (.ifCond .ne 6, 3) := by decide +kernel
theorem dX10_forgets_38 : decode cX10_forgets 38 = .ok (.goto 78, 3) := by decide +kernel
theorem dX10_forgets_41 : decode cX10_forgets 41 = .ok (.iconst 0, 1) := by decide +kernel
theorem dX10_forgets_42 : decode cX10_forgets 42 = .ok (.istore_n 3, 1) := by decide +kernel
theorem dX10_forgets_43 : decode cX10_forgets 43 = .ok (.iconst 0, 1) := by decide +kernel
theorem dX10_forgets_44 : decode cX10_forgets 44 = .ok (.istore 4, 2) := by decide +kernel
theorem dX10_forgets_46 : decode cX10_forgets 46 = .ok (.iload 4, 2) := by decide +kernel
theorem dX10_forgets_48 : decode cX10_forgets 48 = .ok (.aload_n 0, 1) := by decide +kernel
theorem dX10_forgets_49 : decode cX10_forgets 49 = .ok (.getfield 13, 3) := by decide +kernel
theorem dX10_forgets_52 : decode cX10_forgets 52 = .ok (.if_icmp .ge 54, 3) := by decide +kernel
theorem dX10_forgets_55 : decode cX10_forgets 55 = .ok (.iload_n 3, 1) := by decide +kernel
theorem dX10_forgets_56 : decode cX10_forgets 56 = .ok (.ifCond .ne 38, 3) := by decide +kernel
theorem dX10_forgets_59 : decode cX10_forgets 59 = .ok (.aload_n 0, 1) := by decide +kernel
theorem dX10_forgets_60 : decode cX10_forgets 60 = .ok (.getfield 54, 3) := by decide +kernel
theorem dX10_forgets_63 : decode cX10_forgets 63 = .ok (.iload_n 1, 1) := by decide +kernel
theorem dX10_forgets_64 : decode cX10_forgets 64 = .ok (.iload_n 2, 1) := by decide +kernel
theorem dX10_forgets_65 : decode cX10_forgets 65 = .ok (.iload 4, 2) := by decide +kernel
theorem dX10_forgets_67 : decode cX10_forgets 67 = .ok (.invokestatic 163, 3) := by decide +kernel
theorem dX10_forgets_70 : decode cX10_forgets 70 = .ok (.baload, 1) := by decide +kernel
theorem dX10_forgets_71 : decode cX10_forgets 71 = .ok (.ifCond .eq 27, 3) := by decide +kernel
theorem dX10_forgets_74 : decode cX10_forgets 74 = .ok (.aload_n 0, 1) := by decide +kernel
theorem dX10_forgets_75 : decode cX10_forgets 75 = .ok (.iload_n 1, 1) := by decide +kernel
theorem dX10_forgets_76 : decode cX10_forgets 76 = .ok (.aload_n 0, 1) := by decide +kernel
theorem dX10_forgets_77 : decode cX10_forgets 77 = .ok (.getfield 60, 3) := by decide +kernel
theorem dX10_forgets_80 : decode cX10_forgets 80 = .ok (.iload_n 1, 1) := by decide +kernel
theorem dX10_forgets_81 : decode cX10_forgets 81 = .ok (.iload_n 2, 1) := by decide +kernel
theorem dX10_forgets_82 : decode cX10_forgets 82 = .ok (.iload 4, 2) := by decide +kernel
theorem dX10_forgets_84 : decode cX10_forgets 84 = .ok (.invokestatic 163, 3) := by decide +kernel
theorem dX10_forgets_87 : decode cX10_forgets 87 = .ok (.iaload, 1) := by decide +kernel
theorem dX10_forgets_88 : decode cX10_forgets 88 = .ok (.invokevirtual 154, 3) := by decide +kernel
theorem dX10_forgets_91 : decode cX10_forgets 91 = .ok (.ifCond .ne 7, 3) := by decide +kernel
theorem dX10_forgets_94 : decode cX10_forgets 94 = .ok (.iconst 1, 1) := by decide +kernel
theorem dX10_forgets_95 : decode cX10_forgets 95 = .ok (.goto 4, 3) := by decide +kernel
theorem dX10_forgets_98 : decode cX10_forgets 98 = .ok (.iconst 0, 1) := by decide +kernel
theorem dX10_forgets_99 : decode cX10_forgets 99 = .ok (.istore_n 3, 1) := by decide +kernel
theorem dX10_forgets_100 : decode cX10_forgets 100 = .ok (.iinc 4 1, 3) := by decide +kernel
theorem dX10_forgets_103 : decode cX10_forgets 103 = .ok (.goto (-57), 3) := by decide +kernel
theorem dX10_forgets_106 : decode cX10_forgets 106 = .ok (.iload_n 3, 1) := by decide +kernel
theorem dX10_forgets_107 : decode cX10_forgets 107 = .ok (.ifCond .eq 9, 3) := by decide +kernel
theorem dX10_forgets_110 : decode cX10_forgets 110 = .ok (.aload_n 0, 1) := by decide +kernel
theorem dX10_forgets_111 : decode cX10_forgets 111 = .ok (.iload_n 1, 1) := by decide +kernel
theorem dX10_forgets_112 : decode cX10_forgets 112 = .ok (.iload_n 2, 1) := by decide +kernel
theorem dX10_forgets_113 : decode cX10_forgets 113 = .ok (.invokevirtual 183, 3) := by decide +kernel
theorem dX10_forgets_116 : decode cX10_forgets 116 = .ok (.iinc 2 1, 3) := by decide +kernel
theorem dX10_forgets_119 : decode cX10_forgets 119 = .ok (.goto (-117), 3) := by decide +kernel
theorem dX10_forgets_122 : decode cX10_forgets 122 = .ok (.return_, 1) := by decide +kernel
set_option maxRecDepth 20000 in
theorem ggX10_oneTick_X10_allCome : GoodIn wsX10_oneTick wsX10_allCome := goodIn_r _ [12, 13, 14, 1, 15, 16, 17, 18, 11, 19, 20, 21, 22, 23, 24, 25, 26, 27, 28, 29, 30, 31, 32, 33, 34, 35, 36, 37, 38, 39, 40, 41, 42, 43, 44, 45, 46, 47, 48, 49, 50, 51, 52, 53, 54, 55, 56, 57, 58, 59, 60, 61, 62, 63, 64, 65, 66, 2, 67, 68, 69, 70, 71, 72, 73, 74, 75, 76, 77, 78, 79, 80, 81, 82, 83, 84, 85, 161, 162, 163, 164, 165, 166, 167, 168, 169, 170, 171, 172, 173, 174, 175, 176, 177, 178, 179, 180, 181, 182, 183, 184, 185, 186, 187, 188, 189, 190, 191, 192, 193, 194, 195, 196, 197, 198, 199, 200, 201, 202, 203, 204, 205] (by decide +kernel) (by decide +kernel)
set_option maxRecDepth 20000 in
theorem gX10_oneTick_X10_allCome : GoodIn wsX10_oneTick (wsV RX10 248 RX10 yX10_allCome wsX10_allCome) := goodIn_app (goodIn_of _ (by decide +kernel)) ggX10_oneTick_X10_allCome
set_option maxRecDepth 20000 in
theorem ggX10_oneTick_X10_opens : GoodIn wsX10_oneTick wsX10_opens := goodIn_r _ [89, 90, 2, 91, 92, 93, 94, 95, 25, 36, 37, 11, 38, 96, 97, 98, 99, 77, 34, 100, 101, 102, 103, 104, 3, 68, 105, 106, 107, 108, 109, 110, 111, 112, 73, 74, 75, 76, 78, 79, 80, 81, 161, 162, 163, 164, 165, 166, 167, 168, 169, 170, 171, 172, 173, 174, 175, 176, 177, 178, 179, 180, 181, 182, 183, 184, 185, 186, 187, 188, 189, 190, 191, 192, 193, 194, 195, 196, 197, 198, 199, 200, 201, 202, 203, 204, 205] (by decide +kernel) (by decide +kernel)
set_option maxRecDepth 20000 in
theorem gX10_oneTick_X10_opens : GoodIn wsX10_oneTick (wsV RX10 252 RX10 yX10_opens wsX10_opens) := goodIn_app (goodIn_of _ (by decide +kernel)) ggX10_oneTick_X10_opens
set_option maxRecDepth 20000 in
theorem ggX10_oneTick_X10_forgets : GoodIn wsX10_oneTick wsX10_forgets := goodIn_r _ [116, 77, 34, 43, 32, 28, 31, 44, 45, 11, 46, 100, 101, 102, 103, 104, 3, 68, 36, 37, 38, 69, 70, 71, 72, 161, 162, 163, 164, 165, 166, 167, 168, 169, 170, 171, 172, 173, 174, 175, 176, 177, 178, 179, 180, 181, 182, 183, 184, 185, 186, 187, 188, 189, 190, 191, 192, 193, 194, 195, 196, 197, 198, 199, 200, 201, 202, 203, 204, 205] (by decide +kernel) (by decide +kernel)
set_option maxRecDepth 20000 in
theorem gX10_oneTick_X10_forgets : GoodIn wsX10_oneTick (wsV RX10 255 RX10 yX10_forgets wsX10_forgets) := goodIn_app (goodIn_of _ (by decide +kernel)) ggX10_oneTick_X10_forgets
set_option maxRecDepth 20000 in
theorem ggX10_oneTick_X10_asks : GoodIn wsX10_oneTick wsX10_asks := goodIn_r _ [120, 77, 34, 32, 43, 28, 121, 122, 123, 11, 124, 44, 45, 46, 125, 126, 127, 128, 13, 20, 22, 23, 129, 130, 131, 132, 31, 21, 133, 134, 135, 136, 2, 4, 137, 138, 139, 140, 91, 100, 101, 102, 103, 104, 3, 68, 36, 37, 38, 105, 106, 107, 108, 92, 141, 142, 143, 144, 47, 48, 49, 50, 145, 146, 147, 148, 149, 150, 151, 152, 6, 153, 154, 155, 95, 30, 156, 14, 1, 15, 55, 56, 57, 58, 59, 60, 157, 158, 159, 160, 161, 162, 163, 164, 165, 166, 167, 168, 169, 170, 171, 172, 173, 174, 175, 176, 177, 178, 179, 180, 181, 182, 183, 184, 185, 186, 187, 188, 189, 190, 191, 192, 193, 194, 195, 196, 197, 198, 199, 200, 201, 202, 203, 204, 205] (by decide +kernel) (by decide +kernel)
set_option maxRecDepth 20000 in
theorem gX10_oneTick_X10_asks : GoodIn wsX10_oneTick (wsV RX10 258 RX10 yX10_asks wsX10_asks) := goodIn_app (goodIn_of _ (by decide +kernel)) ggX10_oneTick_X10_asks
theorem dX10_oneTick_0 : decode cX10_oneTick 0 = .ok (.aload_n 0, 1) := by decide +kernel
theorem dX10_oneTick_1 : decode cX10_oneTick 1 = .ok (.dup, 1) := by decide +kernel
theorem dX10_oneTick_2 : decode cX10_oneTick 2 = .ok (.getfield 202, 3) := by decide +kernel
theorem dX10_oneTick_5 : decode cX10_oneTick 5 = .ok (.iconst 1, 1) := by decide +kernel
theorem dX10_oneTick_6 : decode cX10_oneTick 6 = .ok (.iadd, 1) := by decide +kernel
theorem dX10_oneTick_7 : decode cX10_oneTick 7 = .ok (.putfield 202, 3) := by decide +kernel
theorem dX10_oneTick_10 : decode cX10_oneTick 10 = .ok (.aload_n 0, 1) := by decide +kernel
theorem dX10_oneTick_11 : decode cX10_oneTick 11 = .ok (.iconst 0, 1) := by decide +kernel
theorem dX10_oneTick_12 : decode cX10_oneTick 12 = .ok (.invokevirtual 248, 3) := by decide +kernel
theorem dX10_oneTick_15 : decode cX10_oneTick 15 = .ok (.iconst 0, 1) := by decide +kernel
theorem dX10_oneTick_16 : decode cX10_oneTick 16 = .ok (.istore_n 1, 1) := by decide +kernel
theorem dX10_oneTick_17 : decode cX10_oneTick 17 = .ok (.iload_n 1, 1) := by decide +kernel
theorem dX10_oneTick_18 : decode cX10_oneTick 18 = .ok (.aload_n 0, 1) := by decide +kernel
theorem dX10_oneTick_19 : decode cX10_oneTick 19 = .ok (.getfield 136, 3) := by decide +kernel
theorem dX10_oneTick_22 : decode cX10_oneTick 22 = .ok (.if_icmp .ge 33, 3) := by decide +kernel
theorem dX10_oneTick_25 : decode cX10_oneTick 25 = .ok (.aload_n 0, 1) := by decide +kernel
theorem dX10_oneTick_26 : decode cX10_oneTick 26 = .ok (.getfield 202, 3) := by decide +kernel
theorem dX10_oneTick_29 : decode cX10_oneTick 29 = .ok (.iconst 4, 1) := by decide +kernel
theorem dX10_oneTick_30 : decode cX10_oneTick 30 = .ok (.irem, 1) := by decide +kernel
theorem dX10_oneTick_31 : decode cX10_oneTick 31 = .ok (.iconst 1, 1) := by decide +kernel
theorem dX10_oneTick_32 : decode cX10_oneTick 32 = .ok (.if_icmp .ne 23, 3) := by decide +kernel
theorem dX10_oneTick_35 : decode cX10_oneTick 35 = .ok (.aload_n 0, 1) := by decide +kernel
theorem dX10_oneTick_36 : decode cX10_oneTick 36 = .ok (.getfield 26, 3) := by decide +kernel
theorem dX10_oneTick_39 : decode cX10_oneTick 39 = .ok (.iload_n 1, 1) := by decide +kernel
theorem dX10_oneTick_40 : decode cX10_oneTick 40 = .ok (.baload, 1) := by decide +kernel
theorem dX10_oneTick_41 : decode cX10_oneTick 41 = .ok (.ifCond .eq 8, 3) := by decide +kernel
theorem dX10_oneTick_44 : decode cX10_oneTick 44 = .ok (.aload_n 0, 1) := by decide +kernel
theorem dX10_oneTick_45 : decode cX10_oneTick 45 = .ok (.iload_n 1, 1) := by decide +kernel
theorem dX10_oneTick_46 : decode cX10_oneTick 46 = .ok (.invokevirtual 252, 3) := by decide +kernel
theorem dX10_oneTick_49 : decode cX10_oneTick 49 = .ok (.iinc 1 1, 3) := by decide +kernel
theorem dX10_oneTick_52 : decode cX10_oneTick 52 = .ok (.goto (-35), 3) := by decide +kernel
theorem dX10_oneTick_55 : decode cX10_oneTick 55 = .ok (.iconst 0, 1) := by decide +kernel
theorem dX10_oneTick_56 : decode cX10_oneTick 56 = .ok (.istore_n 1, 1) := by decide +kernel
theorem dX10_oneTick_57 : decode cX10_oneTick 57 = .ok (.iload_n 1, 1) := by decide +kernel
theorem dX10_oneTick_58 : decode cX10_oneTick 58 = .ok (.aload_n 0, 1) := by decide +kernel
theorem dX10_oneTick_59 : decode cX10_oneTick 59 = .ok (.getfield 136, 3) := by decide +kernel
theorem dX10_oneTick_62 : decode cX10_oneTick 62 = .ok (.if_icmp .ge 73, 3) := by decide +kernel
theorem dX10_oneTick_65 : decode cX10_oneTick 65 = .ok (.aload_n 0, 1) := by decide +kernel
theorem dX10_oneTick_66 : decode cX10_oneTick 66 = .ok (.getfield 114, 3) := by decide +kernel
theorem dX10_oneTick_69 : decode cX10_oneTick 69 = .ok (.iload_n 1, 1) := by decide +kernel
theorem dX10_oneTick_70 : decode cX10_oneTick 70 = .ok (.aload_n 0, 1) := by decide +kernel
theorem dX10_oneTick_71 : decode cX10_oneTick 71 = .ok (.getfield 26, 3) := by decide +kernel
theorem dX10_oneTick_74 : decode cX10_oneTick 74 = .ok (.iload_n 1, 1) := by decide +kernel
theorem dX10_oneTick_75 : decode cX10_oneTick 75 = .ok (.baload, 1) := by decide +kernel
theorem dX10_oneTick_76 : decode cX10_oneTick 76 = .ok (.ifCond .eq 12, 3) := by decide +kernel
theorem dX10_oneTick_79 : decode cX10_oneTick 79 = .ok (.aload_n 0, 1) := by decide +kernel
theorem dX10_oneTick_80 : decode cX10_oneTick 80 = .ok (.getfield 20, 3) := by decide +kernel
theorem dX10_oneTick_83 : decode cX10_oneTick 83 = .ok (.iload_n 1, 1) := by decide +kernel
theorem dX10_oneTick_84 : decode cX10_oneTick 84 = .ok (.iaload, 1) := by decide +kernel
theorem dX10_oneTick_85 : decode cX10_oneTick 85 = .ok (.goto 4, 3) := by decide +kernel
theorem dX10_oneTick_88 : decode cX10_oneTick 88 = .ok (.iconst 0, 1) := by decide +kernel
theorem dX10_oneTick_89 : decode cX10_oneTick 89 = .ok (.iastore, 1) := by decide +kernel
theorem dX10_oneTick_90 : decode cX10_oneTick 90 = .ok (.aload_n 0, 1) := by decide +kernel
theorem dX10_oneTick_91 : decode cX10_oneTick 91 = .ok (.getfield 117, 3) := by decide +kernel
theorem dX10_oneTick_94 : decode cX10_oneTick 94 = .ok (.iload_n 1, 1) := by decide +kernel
theorem dX10_oneTick_95 : decode cX10_oneTick 95 = .ok (.aload_n 0, 1) := by decide +kernel
theorem dX10_oneTick_96 : decode cX10_oneTick 96 = .ok (.getfield 26, 3) := by decide +kernel
theorem dX10_oneTick_99 : decode cX10_oneTick 99 = .ok (.iload_n 1, 1) := by decide +kernel
theorem dX10_oneTick_100 : decode cX10_oneTick 100 = .ok (.baload, 1) := by decide +kernel
theorem dX10_oneTick_101 : decode cX10_oneTick 101 = .ok (.ifCond .eq 12, 3) := by decide +kernel
theorem dX10_oneTick_104 : decode cX10_oneTick 104 = .ok (.aload_n 0, 1) := by decide +kernel
theorem dX10_oneTick_105 : decode cX10_oneTick 105 = .ok (.getfield 23, 3) := by decide +kernel
theorem dX10_oneTick_108 : decode cX10_oneTick 108 = .ok (.iload_n 1, 1) := by decide +kernel
theorem dX10_oneTick_109 : decode cX10_oneTick 109 = .ok (.iaload, 1) := by decide +kernel
theorem dX10_oneTick_110 : decode cX10_oneTick 110 = .ok (.goto 4, 3) := by decide +kernel
theorem dX10_oneTick_113 : decode cX10_oneTick 113 = .ok (.iconst 0, 1) := by decide +kernel
theorem dX10_oneTick_114 : decode cX10_oneTick 114 = .ok (.iastore, 1) := by decide +kernel
theorem dX10_oneTick_115 : decode cX10_oneTick 115 = .ok (.aload_n 0, 1) := by decide +kernel
theorem dX10_oneTick_116 : decode cX10_oneTick 116 = .ok (.getfield 26, 3) := by decide +kernel
theorem dX10_oneTick_119 : decode cX10_oneTick 119 = .ok (.iload_n 1, 1) := by decide +kernel
theorem dX10_oneTick_120 : decode cX10_oneTick 120 = .ok (.baload, 1) := by decide +kernel
theorem dX10_oneTick_121 : decode cX10_oneTick 121 = .ok (.ifCond .eq 8, 3) := by decide +kernel
theorem dX10_oneTick_124 : decode cX10_oneTick 124 = .ok (.aload_n 0, 1) := by decide +kernel
theorem dX10_oneTick_125 : decode cX10_oneTick 125 = .ok (.iload_n 1, 1) := by decide +kernel
theorem dX10_oneTick_126 : decode cX10_oneTick 126 = .ok (.invokevirtual 255, 3) := by decide +kernel
theorem dX10_oneTick_129 : decode cX10_oneTick 129 = .ok (.iinc 1 1, 3) := by decide +kernel
theorem dX10_oneTick_132 : decode cX10_oneTick 132 = .ok (.goto (-75), 3) := by decide +kernel
theorem dX10_oneTick_135 : decode cX10_oneTick 135 = .ok (.iconst 1, 1) := by decide +kernel
theorem dX10_oneTick_136 : decode cX10_oneTick 136 = .ok (.istore_n 1, 1) := by decide +kernel
theorem dX10_oneTick_137 : decode cX10_oneTick 137 = .ok (.iload_n 1, 1) := by decide +kernel
theorem dX10_oneTick_138 : decode cX10_oneTick 138 = .ok (.ifCond .eq 43, 3) := by decide +kernel
theorem dX10_oneTick_141 : decode cX10_oneTick 141 = .ok (.iconst 0, 1) := by decide +kernel
theorem dX10_oneTick_142 : decode cX10_oneTick 142 = .ok (.istore_n 1, 1) := by decide +kernel
theorem dX10_oneTick_143 : decode cX10_oneTick 143 = .ok (.iconst 0, 1) := by decide +kernel
theorem dX10_oneTick_144 : decode cX10_oneTick 144 = .ok (.istore_n 2, 1) := by decide +kernel
theorem dX10_oneTick_145 : decode cX10_oneTick 145 = .ok (.iload_n 2, 1) := by decide +kernel
theorem dX10_oneTick_146 : decode cX10_oneTick 146 = .ok (.aload_n 0, 1) := by decide +kernel
theorem dX10_oneTick_147 : decode cX10_oneTick 147 = .ok (.getfield 136, 3) := by decide +kernel
theorem dX10_oneTick_150 : decode cX10_oneTick 150 = .ok (.if_icmp .ge 28, 3) := by decide +kernel
theorem dX10_oneTick_153 : decode cX10_oneTick 153 = .ok (.aload_n 0, 1) := by decide +kernel
theorem dX10_oneTick_154 : decode cX10_oneTick 154 = .ok (.getfield 117, 3) := by decide +kernel
theorem dX10_oneTick_157 : decode cX10_oneTick 157 = .ok (.iload_n 2, 1) := by decide +kernel
theorem dX10_oneTick_158 : decode cX10_oneTick 158 = .ok (.iaload, 1) := by decide +kernel
theorem dX10_oneTick_159 : decode cX10_oneTick 159 = .ok (.ifCond .le 13, 3) := by decide +kernel
theorem dX10_oneTick_162 : decode cX10_oneTick 162 = .ok (.aload_n 0, 1) := by decide +kernel
theorem dX10_oneTick_163 : decode cX10_oneTick 163 = .ok (.iload_n 2, 1) := by decide +kernel
theorem dX10_oneTick_164 : decode cX10_oneTick 164 = .ok (.invokevirtual 258, 3) := by decide +kernel
theorem dX10_oneTick_167 : decode cX10_oneTick 167 = .ok (.ifCond .eq 5, 3) := by decide +kernel
theorem dX10_oneTick_170 : decode cX10_oneTick 170 = .ok (.iconst 1, 1) := by decide +kernel
theorem dX10_oneTick_171 : decode cX10_oneTick 171 = .ok (.istore_n 1, 1) := by decide +kernel
theorem dX10_oneTick_172 : decode cX10_oneTick 172 = .ok (.iinc 2 1, 3) := by decide +kernel
theorem dX10_oneTick_175 : decode cX10_oneTick 175 = .ok (.goto (-30), 3) := by decide +kernel
theorem dX10_oneTick_178 : decode cX10_oneTick 178 = .ok (.goto (-41), 3) := by decide +kernel
theorem dX10_oneTick_181 : decode cX10_oneTick 181 = .ok (.aload_n 0, 1) := by decide +kernel
theorem dX10_oneTick_182 : decode cX10_oneTick 182 = .ok (.iconst 1, 1) := by decide +kernel
theorem dX10_oneTick_183 : decode cX10_oneTick 183 = .ok (.invokevirtual 248, 3) := by decide +kernel
theorem dX10_oneTick_186 : decode cX10_oneTick 186 = .ok (.return_, 1) := by decide +kernel
set_option maxRecDepth 20000 in
theorem ggX10_tick_X10_in : GoodIn wsX10_tick wsX10_in := goodIn_r _ [6] (by decide +kernel) (by decide +kernel)
set_option maxRecDepth 20000 in
theorem gX10_tick_X10_in : GoodIn wsX10_tick (va_wsS RX10 132 yX10_in wsX10_in) := goodIn_app (goodIn_of _ (by decide +kernel)) ggX10_tick_X10_in
set_option maxRecDepth 20000 in
theorem ggX10_tick_X10_oneTick : GoodIn wsX10_tick wsX10_oneTick := goodIn_r _ [10, 11, 12, 13, 14, 15, 16, 17, 18, 19, 20, 5, 21, 22, 23, 24, 25, 26, 27, 28, 29, 30, 31, 32, 33, 34, 35, 36, 37, 38, 39, 40, 41, 42, 43, 44, 45, 46, 47, 48, 49, 50, 51, 52, 53, 54, 55, 56, 57, 58, 59, 60, 61, 62, 63, 64, 65, 66, 67, 68, 69, 70, 71, 72, 73, 74, 75, 76, 77, 78, 79, 80, 81, 82, 83, 84, 85, 86, 87, 88, 89, 90, 91, 92, 93, 94, 95, 96, 97, 98, 99, 100, 101, 102, 103, 104, 105, 106, 107, 108, 109, 110, 111, 112, 113, 114, 115, 116, 117, 118, 119, 120, 121, 122, 123, 124, 125, 126, 127, 128, 129, 130, 131, 132, 133, 134, 135, 136, 137, 138, 139, 140, 141, 142, 143, 144, 145, 146, 147, 148, 149, 150, 151, 152, 153, 154, 155, 156, 157, 158, 159, 160, 161, 162, 2, 163, 164, 165, 166, 167, 168, 169, 170, 171, 172, 173, 174, 175, 176, 177, 178, 179, 180, 181, 182, 183, 184, 185, 186, 187, 188, 189, 190, 191, 192, 193, 194, 195, 196, 197, 198, 199, 200, 201, 202, 203, 204, 205, 206, 207, 208, 209, 210, 211, 212, 213] (by decide +kernel) (by decide +kernel)
set_option maxRecDepth 20000 in
theorem gX10_tick_X10_oneTick : GoodIn wsX10_tick (wsV RX10 261 RX10 yX10_oneTick wsX10_oneTick) := goodIn_app (goodIn_of _ (by decide +kernel)) ggX10_tick_X10_oneTick
theorem dX10_tick_0 : decode cX10_tick 0 = .ok (.aload_n 0, 1) := by decide +kernel
theorem dX10_tick_1 : decode cX10_tick 1 = .ok (.iconst 0, 1) := by decide +kernel
theorem dX10_tick_2 : decode cX10_tick 2 = .ok (.putfield 120, 3) := by decide +kernel
theorem dX10_tick_5 : decode cX10_tick 5 = .ok (.iload_n 1, 1) := by decide +kernel
theorem dX10_tick_6 : decode cX10_tick 6 = .ok (.iconst 0, 1) := by decide +kernel
theorem dX10_tick_7 : decode cX10_tick 7 = .ok (.bipush 50, 2) := by decide +kernel
theorem dX10_tick_9 : decode cX10_tick 9 = .ok (.invokestatic 132, 3) := by decide +kernel
theorem dX10_tick_12 : decode cX10_tick 12 = .ok (.ifCond .ne 5, 3) := by decide +kernel
theorem dX10_tick_15 : decode cX10_tick 15 = .ok (.iconst (-1), 1) := by decide +kernel
theorem dX10_tick_16 : decode cX10_tick 16 = .ok (.ireturn, 1) := by decide +kernel
theorem dX10_tick_17 : decode cX10_tick 17 = .ok (.aload_n 0, 1) := by decide +kernel
theorem dX10_tick_18 : decode cX10_tick 18 = .ok (.getfield 221, 3) := by decide +kernel
theorem dX10_tick_21 : decode cX10_tick 21 = .ok (.istore_n 2, 1) := by decide +kernel
theorem dX10_tick_22 : decode cX10_tick 22 = .ok (.iconst 0, 1) := by decide +kernel
theorem dX10_tick_23 : decode cX10_tick 23 = .ok (.istore_n 3, 1) := by decide +kernel
theorem dX10_tick_24 : decode cX10_tick 24 = .ok (.iload_n 3, 1) := by decide +kernel
theorem dX10_tick_25 : decode cX10_tick 25 = .ok (.iload_n 1, 1) := by decide +kernel
theorem dX10_tick_26 : decode cX10_tick 26 = .ok (.if_icmp .ge 13, 3) := by decide +kernel
theorem dX10_tick_29 : decode cX10_tick 29 = .ok (.aload_n 0, 1) := by decide +kernel
theorem dX10_tick_30 : decode cX10_tick 30 = .ok (.invokevirtual 261, 3) := by decide +kernel
theorem dX10_tick_33 : decode cX10_tick 33 = .ok (.iinc 3 1, 3) := by decide +kernel
theorem dX10_tick_36 : decode cX10_tick 36 = .ok (.goto (-12), 3) := by decide +kernel
theorem dX10_tick_39 : decode cX10_tick 39 = .ok (.aload_n 0, 1) := by decide +kernel
theorem dX10_tick_40 : decode cX10_tick 40 = .ok (.getfield 221, 3) := by decide +kernel
theorem dX10_tick_43 : decode cX10_tick 43 = .ok (.iload_n 2, 1) := by decide +kernel
theorem dX10_tick_44 : decode cX10_tick 44 = .ok (.isub, 1) := by decide +kernel
theorem dX10_tick_45 : decode cX10_tick 45 = .ok (.ireturn, 1) := by decide +kernel
set_option maxRecDepth 20000 in
theorem ggX10_holdsMany_X10_heldMany : GoodIn wsX10_holdsMany wsX10_heldMany := goodIn_r _ [7, 8, 9, 10, 11, 6, 12, 13, 14, 15, 16, 17, 18, 19, 20, 21, 22, 23, 24, 25, 26, 27, 28, 29, 30, 31, 32, 33, 34, 35, 36, 37, 38, 39, 40, 41, 42, 43, 44, 45, 46, 47, 48, 49, 50, 51, 52, 53, 54, 55, 56, 57] (by decide +kernel) (by decide +kernel)
set_option maxRecDepth 20000 in
theorem gX10_holdsMany_X10_heldMany : GoodIn wsX10_holdsMany (wsV RX10 193 RX10 yX10_heldMany wsX10_heldMany) := goodIn_app (goodIn_of _ (by decide +kernel)) ggX10_holdsMany_X10_heldMany
theorem dX10_holdsMany_0 : decode cX10_holdsMany 0 = .ok (.iconst 0, 1) := by decide +kernel
theorem dX10_holdsMany_1 : decode cX10_holdsMany 1 = .ok (.istore_n 2, 1) := by decide +kernel
theorem dX10_holdsMany_2 : decode cX10_holdsMany 2 = .ok (.iconst 0, 1) := by decide +kernel
theorem dX10_holdsMany_3 : decode cX10_holdsMany 3 = .ok (.istore_n 3, 1) := by decide +kernel
theorem dX10_holdsMany_4 : decode cX10_holdsMany 4 = .ok (.iload_n 3, 1) := by decide +kernel
theorem dX10_holdsMany_5 : decode cX10_holdsMany 5 = .ok (.aload_n 0, 1) := by decide +kernel
theorem dX10_holdsMany_6 : decode cX10_holdsMany 6 = .ok (.getfield 7, 3) := by decide +kernel
theorem dX10_holdsMany_9 : decode cX10_holdsMany 9 = .ok (.if_icmp .ge 36, 3) := by decide +kernel
theorem dX10_holdsMany_12 : decode cX10_holdsMany 12 = .ok (.iload_n 2, 1) := by decide +kernel
theorem dX10_holdsMany_13 : decode cX10_holdsMany 13 = .ok (.aload_n 0, 1) := by decide +kernel
theorem dX10_holdsMany_14 : decode cX10_holdsMany 14 = .ok (.getfield 48, 3) := by decide +kernel
theorem dX10_holdsMany_17 : decode cX10_holdsMany 17 = .ok (.bipush 24, 2) := by decide +kernel
theorem dX10_holdsMany_19 : decode cX10_holdsMany 19 = .ok (.iload_n 1, 1) := by decide +kernel
theorem dX10_holdsMany_20 : decode cX10_holdsMany 20 = .ok (.imul, 1) := by decide +kernel
theorem dX10_holdsMany_21 : decode cX10_holdsMany 21 = .ok (.iload_n 3, 1) := by decide +kernel
theorem dX10_holdsMany_22 : decode cX10_holdsMany 22 = .ok (.iadd, 1) := by decide +kernel
theorem dX10_holdsMany_23 : decode cX10_holdsMany 23 = .ok (.baload, 1) := by decide +kernel
theorem dX10_holdsMany_24 : decode cX10_holdsMany 24 = .ok (.ifCond .eq 7, 3) := by decide +kernel
theorem dX10_holdsMany_27 : decode cX10_holdsMany 27 = .ok (.iconst 0, 1) := by decide +kernel
theorem dX10_holdsMany_28 : decode cX10_holdsMany 28 = .ok (.goto 9, 3) := by decide +kernel
theorem dX10_holdsMany_31 : decode cX10_holdsMany 31 = .ok (.aload_n 0, 1) := by decide +kernel
theorem dX10_holdsMany_32 : decode cX10_holdsMany 32 = .ok (.iload_n 1, 1) := by decide +kernel
theorem dX10_holdsMany_33 : decode cX10_holdsMany 33 = .ok (.iload_n 3, 1) := by decide +kernel
theorem dX10_holdsMany_34 : decode cX10_holdsMany 34 = .ok (.invokevirtual 193, 3) := by decide +kernel
theorem dX10_holdsMany_37 : decode cX10_holdsMany 37 = .ok (.iadd, 1) := by decide +kernel
theorem dX10_holdsMany_38 : decode cX10_holdsMany 38 = .ok (.istore_n 2, 1) := by decide +kernel
theorem dX10_holdsMany_39 : decode cX10_holdsMany 39 = .ok (.iinc 3 1, 3) := by decide +kernel
theorem dX10_holdsMany_42 : decode cX10_holdsMany 42 = .ok (.goto (-38), 3) := by decide +kernel
theorem dX10_holdsMany_45 : decode cX10_holdsMany 45 = .ok (.iload_n 2, 1) := by decide +kernel
theorem dX10_holdsMany_46 : decode cX10_holdsMany 46 = .ok (.ireturn, 1) := by decide +kernel
theorem dX10_count_0 : decode cX10_count 0 = .ok (.iconst 0, 1) := by decide +kernel
theorem dX10_count_1 : decode cX10_count 1 = .ok (.istore 4, 2) := by decide +kernel
theorem dX10_count_3 : decode cX10_count 3 = .ok (.iconst 0, 1) := by decide +kernel
theorem dX10_count_4 : decode cX10_count 4 = .ok (.istore 5, 2) := by decide +kernel
theorem dX10_count_6 : decode cX10_count 6 = .ok (.iload 5, 2) := by decide +kernel
theorem dX10_count_8 : decode cX10_count 8 = .ok (.iload_n 3, 1) := by decide +kernel
theorem dX10_count_9 : decode cX10_count 9 = .ok (.if_icmp .ge 28, 3) := by decide +kernel
theorem dX10_count_12 : decode cX10_count 12 = .ok (.iload 4, 2) := by decide +kernel
theorem dX10_count_14 : decode cX10_count 14 = .ok (.aload_n 1, 1) := by decide +kernel
theorem dX10_count_15 : decode cX10_count 15 = .ok (.iload_n 2, 1) := by decide +kernel
theorem dX10_count_16 : decode cX10_count 16 = .ok (.iload 5, 2) := by decide +kernel
theorem dX10_count_18 : decode cX10_count 18 = .ok (.iadd, 1) := by decide +kernel
theorem dX10_count_19 : decode cX10_count 19 = .ok (.baload, 1) := by decide +kernel
theorem dX10_count_20 : decode cX10_count 20 = .ok (.ifCond .eq 7, 3) := by decide +kernel
theorem dX10_count_23 : decode cX10_count 23 = .ok (.iconst 1, 1) := by decide +kernel
theorem dX10_count_24 : decode cX10_count 24 = .ok (.goto 4, 3) := by decide +kernel
theorem dX10_count_27 : decode cX10_count 27 = .ok (.iconst 0, 1) := by decide +kernel
theorem dX10_count_28 : decode cX10_count 28 = .ok (.iadd, 1) := by decide +kernel
theorem dX10_count_29 : decode cX10_count 29 = .ok (.istore 4, 2) := by decide +kernel
theorem dX10_count_31 : decode cX10_count 31 = .ok (.iinc 5 1, 3) := by decide +kernel
theorem dX10_count_34 : decode cX10_count 34 = .ok (.goto (-28), 3) := by decide +kernel
theorem dX10_count_37 : decode cX10_count 37 = .ok (.iload 4, 2) := by decide +kernel
theorem dX10_count_39 : decode cX10_count 39 = .ok (.ireturn, 1) := by decide +kernel
theorem dX10_comingTo_0 : decode cX10_comingTo 0 = .ok (.iconst 0, 1) := by decide +kernel
theorem dX10_comingTo_1 : decode cX10_comingTo 1 = .ok (.istore_n 2, 1) := by decide +kernel
theorem dX10_comingTo_2 : decode cX10_comingTo 2 = .ok (.iconst 0, 1) := by decide +kernel
theorem dX10_comingTo_3 : decode cX10_comingTo 3 = .ok (.istore_n 3, 1) := by decide +kernel
theorem dX10_comingTo_4 : decode cX10_comingTo 4 = .ok (.iload_n 3, 1) := by decide +kernel
theorem dX10_comingTo_5 : decode cX10_comingTo 5 = .ok (.aload_n 0, 1) := by decide +kernel
theorem dX10_comingTo_6 : decode cX10_comingTo 6 = .ok (.getfield 170, 3) := by decide +kernel
theorem dX10_comingTo_9 : decode cX10_comingTo 9 = .ok (.if_icmp .ge 27, 3) := by decide +kernel
theorem dX10_comingTo_12 : decode cX10_comingTo 12 = .ok (.iload_n 2, 1) := by decide +kernel
theorem dX10_comingTo_13 : decode cX10_comingTo 13 = .ok (.aload_n 0, 1) := by decide +kernel
theorem dX10_comingTo_14 : decode cX10_comingTo 14 = .ok (.getfield 90, 3) := by decide +kernel
theorem dX10_comingTo_17 : decode cX10_comingTo 17 = .ok (.iload_n 3, 1) := by decide +kernel
theorem dX10_comingTo_18 : decode cX10_comingTo 18 = .ok (.iaload, 1) := by decide +kernel
theorem dX10_comingTo_19 : decode cX10_comingTo 19 = .ok (.iload_n 1, 1) := by decide +kernel
theorem dX10_comingTo_20 : decode cX10_comingTo 20 = .ok (.if_icmp .ne 7, 3) := by decide +kernel
theorem dX10_comingTo_23 : decode cX10_comingTo 23 = .ok (.iconst 1, 1) := by decide +kernel
theorem dX10_comingTo_24 : decode cX10_comingTo 24 = .ok (.goto 4, 3) := by decide +kernel
theorem dX10_comingTo_27 : decode cX10_comingTo 27 = .ok (.iconst 0, 1) := by decide +kernel
theorem dX10_comingTo_28 : decode cX10_comingTo 28 = .ok (.iadd, 1) := by decide +kernel
theorem dX10_comingTo_29 : decode cX10_comingTo 29 = .ok (.istore_n 2, 1) := by decide +kernel
theorem dX10_comingTo_30 : decode cX10_comingTo 30 = .ok (.iinc 3 1, 3) := by decide +kernel
theorem dX10_comingTo_33 : decode cX10_comingTo 33 = .ok (.goto (-29), 3) := by decide +kernel
theorem dX10_comingTo_36 : decode cX10_comingTo 36 = .ok (.iload_n 2, 1) := by decide +kernel
theorem dX10_comingTo_37 : decode cX10_comingTo 37 = .ok (.ireturn, 1) := by decide +kernel
set_option maxRecDepth 20000 in
theorem ggX10_openTo_X10_isOpenTo : GoodIn wsX10_openTo wsX10_isOpenTo := goodIn_r _ [6, 7, 8, 9, 5, 10, 11, 12, 13, 14, 15, 16, 17, 18, 19, 20, 21, 22, 23, 24, 25, 26, 27, 28, 29, 30, 31, 32, 33, 34, 35, 36, 37, 38, 39, 40, 41, 42, 43, 44, 45, 46, 47, 48, 49, 50, 51, 52, 53, 54, 55, 56, 57, 58, 59, 60, 61, 62] (by decide +kernel) (by decide +kernel)
set_option maxRecDepth 20000 in
theorem gX10_openTo_X10_isOpenTo : GoodIn wsX10_openTo (wsV RX10 264 RX10 yX10_isOpenTo wsX10_isOpenTo) := goodIn_app (goodIn_of _ (by decide +kernel)) ggX10_openTo_X10_isOpenTo
theorem dX10_openTo_0 : decode cX10_openTo 0 = .ok (.iconst 0, 1) := by decide +kernel
theorem dX10_openTo_1 : decode cX10_openTo 1 = .ok (.istore_n 2, 1) := by decide +kernel
theorem dX10_openTo_2 : decode cX10_openTo 2 = .ok (.iconst 0, 1) := by decide +kernel
theorem dX10_openTo_3 : decode cX10_openTo 3 = .ok (.istore_n 3, 1) := by decide +kernel
theorem dX10_openTo_4 : decode cX10_openTo 4 = .ok (.iload_n 3, 1) := by decide +kernel
theorem dX10_openTo_5 : decode cX10_openTo 5 = .ok (.aload_n 0, 1) := by decide +kernel
theorem dX10_openTo_6 : decode cX10_openTo 6 = .ok (.getfield 136, 3) := by decide +kernel
theorem dX10_openTo_9 : decode cX10_openTo 9 = .ok (.if_icmp .ge 26, 3) := by decide +kernel
theorem dX10_openTo_12 : decode cX10_openTo 12 = .ok (.iload_n 2, 1) := by decide +kernel
theorem dX10_openTo_13 : decode cX10_openTo 13 = .ok (.aload_n 0, 1) := by decide +kernel
theorem dX10_openTo_14 : decode cX10_openTo 14 = .ok (.iload_n 1, 1) := by decide +kernel
theorem dX10_openTo_15 : decode cX10_openTo 15 = .ok (.iload_n 3, 1) := by decide +kernel
theorem dX10_openTo_16 : decode cX10_openTo 16 = .ok (.invokevirtual 264, 3) := by decide +kernel
theorem dX10_openTo_19 : decode cX10_openTo 19 = .ok (.ifCond .eq 7, 3) := by decide +kernel
theorem dX10_openTo_22 : decode cX10_openTo 22 = .ok (.iconst 1, 1) := by decide +kernel
theorem dX10_openTo_23 : decode cX10_openTo 23 = .ok (.goto 4, 3) := by decide +kernel
theorem dX10_openTo_26 : decode cX10_openTo 26 = .ok (.iconst 0, 1) := by decide +kernel
theorem dX10_openTo_27 : decode cX10_openTo 27 = .ok (.iadd, 1) := by decide +kernel
theorem dX10_openTo_28 : decode cX10_openTo 28 = .ok (.istore_n 2, 1) := by decide +kernel
theorem dX10_openTo_29 : decode cX10_openTo 29 = .ok (.iinc 3 1, 3) := by decide +kernel
theorem dX10_openTo_32 : decode cX10_openTo 32 = .ok (.goto (-28), 3) := by decide +kernel
theorem dX10_openTo_35 : decode cX10_openTo 35 = .ok (.iload_n 2, 1) := by decide +kernel
theorem dX10_openTo_36 : decode cX10_openTo 36 = .ok (.ireturn, 1) := by decide +kernel
set_option maxRecDepth 20000 in
theorem ggX10_isOpenTo_X10_two : GoodIn wsX10_isOpenTo wsX10_two := goodIn_r _ [5] (by decide +kernel) (by decide +kernel)
set_option maxRecDepth 20000 in
theorem gX10_isOpenTo_X10_two : GoodIn wsX10_isOpenTo (va_wsS RX10 151 yX10_two wsX10_two) := goodIn_app (goodIn_of _ (by decide +kernel)) ggX10_isOpenTo_X10_two
set_option maxRecDepth 20000 in
theorem ggX10_isOpenTo_X10_isNear : GoodIn wsX10_isOpenTo wsX10_isNear := goodIn_r _ [9, 10, 11, 12, 2, 3, 4, 5, 13, 14, 15, 16, 17, 18, 19, 20, 21, 22, 23, 24, 25, 26, 27, 28, 29, 30, 31, 32, 33, 34, 35, 36, 37, 38, 39, 40, 41, 42, 43, 44, 45, 46, 47, 48, 49, 50, 51, 52, 53, 54, 55, 56, 57] (by decide +kernel) (by decide +kernel)
set_option maxRecDepth 20000 in
theorem gX10_isOpenTo_X10_isNear : GoodIn wsX10_isOpenTo (wsV RX10 154 RX10 yX10_isNear wsX10_isNear) := goodIn_app (goodIn_of _ (by decide +kernel)) ggX10_isOpenTo_X10_isNear
theorem dX10_isOpenTo_0 : decode cX10_isOpenTo 0 = .ok (.iload_n 1, 1) := by decide +kernel
theorem dX10_isOpenTo_1 : decode cX10_isOpenTo 1 = .ok (.iload_n 2, 1) := by decide +kernel
theorem dX10_isOpenTo_2 : decode cX10_isOpenTo 2 = .ok (.if_icmp .eq 29, 3) := by decide +kernel
theorem dX10_isOpenTo_5 : decode cX10_isOpenTo 5 = .ok (.aload_n 0, 1) := by decide +kernel
theorem dX10_isOpenTo_6 : decode cX10_isOpenTo 6 = .ok (.getfield 66, 3) := by decide +kernel
theorem dX10_isOpenTo_9 : decode cX10_isOpenTo 9 = .ok (.iload_n 1, 1) := by decide +kernel
theorem dX10_isOpenTo_10 : decode cX10_isOpenTo 10 = .ok (.iload_n 2, 1) := by decide +kernel
theorem dX10_isOpenTo_11 : decode cX10_isOpenTo 11 = .ok (.invokestatic 151, 3) := by decide +kernel
theorem dX10_isOpenTo_14 : decode cX10_isOpenTo 14 = .ok (.baload, 1) := by decide +kernel
theorem dX10_isOpenTo_15 : decode cX10_isOpenTo 15 = .ok (.ifCond .eq 16, 3) := by decide +kernel
theorem dX10_isOpenTo_18 : decode cX10_isOpenTo 18 = .ok (.aload_n 0, 1) := by decide +kernel
theorem dX10_isOpenTo_19 : decode cX10_isOpenTo 19 = .ok (.iload_n 1, 1) := by decide +kernel
theorem dX10_isOpenTo_20 : decode cX10_isOpenTo 20 = .ok (.iload_n 2, 1) := by decide +kernel
theorem dX10_isOpenTo_21 : decode cX10_isOpenTo 21 = .ok (.invokevirtual 154, 3) := by decide +kernel
theorem dX10_isOpenTo_24 : decode cX10_isOpenTo 24 = .ok (.ifCond .eq 7, 3) := by decide +kernel
theorem dX10_isOpenTo_27 : decode cX10_isOpenTo 27 = .ok (.iconst 1, 1) := by decide +kernel
theorem dX10_isOpenTo_28 : decode cX10_isOpenTo 28 = .ok (.goto 4, 3) := by decide +kernel
theorem dX10_isOpenTo_31 : decode cX10_isOpenTo 31 = .ok (.iconst 0, 1) := by decide +kernel
theorem dX10_isOpenTo_32 : decode cX10_isOpenTo 32 = .ok (.ireturn, 1) := by decide +kernel
set_option maxRecDepth 20000 in
theorem ggX10_about_X10_isPeer : GoodIn wsX10_about wsX10_isPeer := goodIn_r _ [18, 12, 19, 20, 17, 21, 66, 67, 68, 69, 70, 71, 72, 73, 74, 75, 76, 77, 78, 79, 80, 81, 82, 83, 84, 85, 86, 87, 88, 89, 90, 91, 92, 93, 94, 95, 96, 97, 98, 99, 100, 101, 102, 103, 104, 105, 106, 107, 108, 109, 110] (by decide +kernel) (by decide +kernel)
set_option maxRecDepth 20000 in
theorem gX10_about_X10_isPeer : GoodIn wsX10_about (wsV RX10 147 RX10 yX10_isPeer wsX10_isPeer) := goodIn_app (goodIn_of _ (by decide +kernel)) ggX10_about_X10_isPeer
set_option maxRecDepth 20000 in
theorem ggX10_about_X10_hasMany : GoodIn wsX10_about wsX10_hasMany := goodIn_r _ [25, 9, 26, 66, 67, 68, 69, 70, 71, 72, 73, 74, 75, 76, 77, 78, 79, 80, 81, 82, 83, 84, 85, 86, 87, 88, 89, 90, 91, 92, 93, 94, 95, 96, 97, 98, 99, 100, 101, 102, 103, 104, 105, 106, 107, 108, 109, 110] (by decide +kernel) (by decide +kernel)
set_option maxRecDepth 20000 in
theorem gX10_about_X10_hasMany : GoodIn wsX10_about (wsV RX10 160 RX10 yX10_hasMany wsX10_hasMany) := goodIn_app (goodIn_of _ (by decide +kernel)) ggX10_about_X10_hasMany
set_option maxRecDepth 20000 in
theorem ggX10_about_X10_holdsMany : GoodIn wsX10_about wsX10_holdsMany := goodIn_r _ [30, 9, 26, 31, 32, 33, 17, 34, 35, 36, 37, 38, 39, 66, 67, 68, 69, 70, 71, 72, 73, 74, 75, 76, 77, 78, 79, 80, 81, 82, 83, 84, 85, 86, 87, 88, 89, 90, 91, 92, 93, 94, 95, 96, 97, 98, 99, 100, 101, 102, 103, 104, 105, 106, 107, 108, 109, 110] (by decide +kernel) (by decide +kernel)
set_option maxRecDepth 20000 in
theorem gX10_about_X10_holdsMany : GoodIn wsX10_about (wsV RX10 267 RX10 yX10_holdsMany wsX10_holdsMany) := goodIn_app (goodIn_of _ (by decide +kernel)) ggX10_about_X10_holdsMany
set_option maxRecDepth 20000 in
theorem ggX10_about_X10_count : GoodIn wsX10_about wsX10_count := goodIn_r _ [43] (by decide +kernel) (by decide +kernel)
set_option maxRecDepth 20000 in
theorem gX10_about_X10_count : GoodIn wsX10_about (wsV RX10 270 RX10 yX10_count wsX10_count) := goodIn_app (goodIn_of _ (by decide +kernel)) ggX10_about_X10_count
set_option maxRecDepth 20000 in
theorem ggX10_about_X10_comingTo : GoodIn wsX10_about wsX10_comingTo := goodIn_r _ [47, 48, 49, 66, 67, 68, 69, 70, 71, 72, 73, 74, 75, 76, 77, 78, 79, 80, 81, 82, 83, 84, 85, 86, 87, 88, 89, 90, 91, 92, 93, 94, 95, 96, 97, 98, 99, 100, 101, 102, 103, 104, 105, 106, 107, 108, 109, 110] (by decide +kernel) (by decide +kernel)
set_option maxRecDepth 20000 in
theorem gX10_about_X10_comingTo : GoodIn wsX10_about (wsV RX10 274 RX10 yX10_comingTo wsX10_comingTo) := goodIn_app (goodIn_of _ (by decide +kernel)) ggX10_about_X10_comingTo
set_option maxRecDepth 20000 in
theorem ggX10_about_X10_openTo : GoodIn wsX10_about wsX10_openTo := goodIn_r _ [53, 12, 54, 55, 56, 17, 57, 58, 59, 60, 61, 62, 63, 64, 65, 13, 3, 11, 66, 67, 68, 69, 70, 71, 72, 73, 74, 75, 76, 77, 78, 79, 80, 81, 82, 83, 84, 85, 86, 87, 88, 89, 90, 91, 92, 93, 94, 95, 96, 97, 98, 99, 100, 101, 102, 103, 104, 105, 106, 107, 108, 109, 110] (by decide +kernel) (by decide +kernel)
set_option maxRecDepth 20000 in
theorem gX10_about_X10_openTo : GoodIn wsX10_about (wsV RX10 277 RX10 yX10_openTo wsX10_openTo) := goodIn_app (goodIn_of _ (by decide +kernel)) ggX10_about_X10_openTo
theorem dX10_about_0 : decode cX10_about 0 = .ok (.aload_n 0, 1) := by decide +kernel
theorem dX10_about_1 : decode cX10_about 1 = .ok (.iconst 0, 1) := by decide +kernel
theorem dX10_about_2 : decode cX10_about 2 = .ok (.putfield 120, 3) := by decide +kernel
theorem dX10_about_5 : decode cX10_about 5 = .ok (.aload_n 0, 1) := by decide +kernel
theorem dX10_about_6 : decode cX10_about 6 = .ok (.iload_n 1, 1) := by decide +kernel
theorem dX10_about_7 : decode cX10_about 7 = .ok (.invokevirtual 147, 3) := by decide +kernel
theorem dX10_about_10 : decode cX10_about 10 = .ok (.ifCond .ne 5, 3) := by decide +kernel
theorem dX10_about_13 : decode cX10_about 13 = .ok (.iconst (-1), 1) := by decide +kernel
theorem dX10_about_14 : decode cX10_about 14 = .ok (.ireturn, 1) := by decide +kernel
theorem dX10_about_15 : decode cX10_about 15 = .ok (.iload_n 2, 1) := by decide +kernel
theorem dX10_about_16 : decode cX10_about 16 = .ok (.tableswitch 204 0 13 #[72, 79, 94, 100, 106, 113, 120, 127, 134, 151, 158, 164, 181, 187], 72) := by decide +kernel
theorem dX10_about_88 : decode cX10_about 88 = .ok (.aload_n 0, 1) := by decide +kernel
theorem dX10_about_89 : decode cX10_about 89 = .ok (.getfield 16, 3) := by decide +kernel
theorem dX10_about_92 : decode cX10_about 92 = .ok (.iload_n 1, 1) := by decide +kernel
theorem dX10_about_93 : decode cX10_about 93 = .ok (.iaload, 1) := by decide +kernel
theorem dX10_about_94 : decode cX10_about 94 = .ok (.ireturn, 1) := by decide +kernel
theorem dX10_about_95 : decode cX10_about 95 = .ok (.aload_n 0, 1) := by decide +kernel
theorem dX10_about_96 : decode cX10_about 96 = .ok (.getfield 26, 3) := by decide +kernel
theorem dX10_about_99 : decode cX10_about 99 = .ok (.iload_n 1, 1) := by decide +kernel
theorem dX10_about_100 : decode cX10_about 100 = .ok (.baload, 1) := by decide +kernel
theorem dX10_about_101 : decode cX10_about 101 = .ok (.ifCond .eq 7, 3) := by decide +kernel
theorem dX10_about_104 : decode cX10_about 104 = .ok (.iconst 1, 1) := by decide +kernel
theorem dX10_about_105 : decode cX10_about 105 = .ok (.goto 4, 3) := by decide +kernel
theorem dX10_about_108 : decode cX10_about 108 = .ok (.iconst 0, 1) := by decide +kernel
theorem dX10_about_109 : decode cX10_about 109 = .ok (.ireturn, 1) := by decide +kernel
theorem dX10_about_110 : decode cX10_about 110 = .ok (.aload_n 0, 1) := by decide +kernel
theorem dX10_about_111 : decode cX10_about 111 = .ok (.iload_n 1, 1) := by decide +kernel
theorem dX10_about_112 : decode cX10_about 112 = .ok (.invokevirtual 160, 3) := by decide +kernel
theorem dX10_about_115 : decode cX10_about 115 = .ok (.ireturn, 1) := by decide +kernel
theorem dX10_about_116 : decode cX10_about 116 = .ok (.aload_n 0, 1) := by decide +kernel
theorem dX10_about_117 : decode cX10_about 117 = .ok (.iload_n 1, 1) := by decide +kernel
theorem dX10_about_118 : decode cX10_about 118 = .ok (.invokevirtual 267, 3) := by decide +kernel
theorem dX10_about_121 : decode cX10_about 121 = .ok (.ireturn, 1) := by decide +kernel
theorem dX10_about_122 : decode cX10_about 122 = .ok (.aload_n 0, 1) := by decide +kernel
theorem dX10_about_123 : decode cX10_about 123 = .ok (.getfield 33, 3) := by decide +kernel
theorem dX10_about_126 : decode cX10_about 126 = .ok (.iload_n 1, 1) := by decide +kernel
theorem dX10_about_127 : decode cX10_about 127 = .ok (.iaload, 1) := by decide +kernel
theorem dX10_about_128 : decode cX10_about 128 = .ok (.ireturn, 1) := by decide +kernel
theorem dX10_about_129 : decode cX10_about 129 = .ok (.aload_n 0, 1) := by decide +kernel
theorem dX10_about_130 : decode cX10_about 130 = .ok (.getfield 36, 3) := by decide +kernel
theorem dX10_about_133 : decode cX10_about 133 = .ok (.iload_n 1, 1) := by decide +kernel
theorem dX10_about_134 : decode cX10_about 134 = .ok (.iaload, 1) := by decide +kernel
theorem dX10_about_135 : decode cX10_about 135 = .ok (.ireturn, 1) := by decide +kernel
theorem dX10_about_136 : decode cX10_about 136 = .ok (.aload_n 0, 1) := by decide +kernel
theorem dX10_about_137 : decode cX10_about 137 = .ok (.getfield 39, 3) := by decide +kernel
theorem dX10_about_140 : decode cX10_about 140 = .ok (.iload_n 1, 1) := by decide +kernel
theorem dX10_about_141 : decode cX10_about 141 = .ok (.iaload, 1) := by decide +kernel
theorem dX10_about_142 : decode cX10_about 142 = .ok (.ireturn, 1) := by decide +kernel
theorem dX10_about_143 : decode cX10_about 143 = .ok (.aload_n 0, 1) := by decide +kernel
theorem dX10_about_144 : decode cX10_about 144 = .ok (.getfield 42, 3) := by decide +kernel
theorem dX10_about_147 : decode cX10_about 147 = .ok (.iload_n 1, 1) := by decide +kernel
theorem dX10_about_148 : decode cX10_about 148 = .ok (.iaload, 1) := by decide +kernel
theorem dX10_about_149 : decode cX10_about 149 = .ok (.ireturn, 1) := by decide +kernel
theorem dX10_about_150 : decode cX10_about 150 = .ok (.aload_n 0, 1) := by decide +kernel
theorem dX10_about_151 : decode cX10_about 151 = .ok (.aload_n 0, 1) := by decide +kernel
theorem dX10_about_152 : decode cX10_about 152 = .ok (.getfield 51, 3) := by decide +kernel
theorem dX10_about_155 : decode cX10_about 155 = .ok (.bipush 24, 2) := by decide +kernel
theorem dX10_about_157 : decode cX10_about 157 = .ok (.iload_n 1, 1) := by decide +kernel
theorem dX10_about_158 : decode cX10_about 158 = .ok (.imul, 1) := by decide +kernel
theorem dX10_about_159 : decode cX10_about 159 = .ok (.aload_n 0, 1) := by decide +kernel
theorem dX10_about_160 : decode cX10_about 160 = .ok (.getfield 7, 3) := by decide +kernel
theorem dX10_about_163 : decode cX10_about 163 = .ok (.invokevirtual 270, 3) := by decide +kernel
theorem dX10_about_166 : decode cX10_about 166 = .ok (.ireturn, 1) := by decide +kernel
theorem dX10_about_167 : decode cX10_about 167 = .ok (.aload_n 0, 1) := by decide +kernel
theorem dX10_about_168 : decode cX10_about 168 = .ok (.getfield 45, 3) := by decide +kernel
theorem dX10_about_171 : decode cX10_about 171 = .ok (.iload_n 1, 1) := by decide +kernel
theorem dX10_about_172 : decode cX10_about 172 = .ok (.iaload, 1) := by decide +kernel
theorem dX10_about_173 : decode cX10_about 173 = .ok (.ireturn, 1) := by decide +kernel
theorem dX10_about_174 : decode cX10_about 174 = .ok (.aload_n 0, 1) := by decide +kernel
theorem dX10_about_175 : decode cX10_about 175 = .ok (.iload_n 1, 1) := by decide +kernel
theorem dX10_about_176 : decode cX10_about 176 = .ok (.invokevirtual 274, 3) := by decide +kernel
theorem dX10_about_179 : decode cX10_about 179 = .ok (.ireturn, 1) := by decide +kernel
theorem dX10_about_180 : decode cX10_about 180 = .ok (.aload_n 0, 1) := by decide +kernel
theorem dX10_about_181 : decode cX10_about 181 = .ok (.aload_n 0, 1) := by decide +kernel
theorem dX10_about_182 : decode cX10_about 182 = .ok (.getfield 69, 3) := by decide +kernel
theorem dX10_about_185 : decode cX10_about 185 = .ok (.bipush 12, 2) := by decide +kernel
theorem dX10_about_187 : decode cX10_about 187 = .ok (.iload_n 1, 1) := by decide +kernel
theorem dX10_about_188 : decode cX10_about 188 = .ok (.imul, 1) := by decide +kernel
theorem dX10_about_189 : decode cX10_about 189 = .ok (.aload_n 0, 1) := by decide +kernel
theorem dX10_about_190 : decode cX10_about 190 = .ok (.getfield 136, 3) := by decide +kernel
theorem dX10_about_193 : decode cX10_about 193 = .ok (.invokevirtual 270, 3) := by decide +kernel
theorem dX10_about_196 : decode cX10_about 196 = .ok (.ireturn, 1) := by decide +kernel
theorem dX10_about_197 : decode cX10_about 197 = .ok (.aload_n 0, 1) := by decide +kernel
theorem dX10_about_198 : decode cX10_about 198 = .ok (.iload_n 1, 1) := by decide +kernel
theorem dX10_about_199 : decode cX10_about 199 = .ok (.invokevirtual 277, 3) := by decide +kernel
theorem dX10_about_202 : decode cX10_about 202 = .ok (.ireturn, 1) := by decide +kernel
theorem dX10_about_203 : decode cX10_about 203 = .ok (.aload_n 0, 1) := by decide +kernel
theorem dX10_about_204 : decode cX10_about 204 = .ok (.aload_n 0, 1) := by decide +kernel
theorem dX10_about_205 : decode cX10_about 205 = .ok (.getfield 63, 3) := by decide +kernel
theorem dX10_about_208 : decode cX10_about 208 = .ok (.bipush 12, 2) := by decide +kernel
theorem dX10_about_210 : decode cX10_about 210 = .ok (.iload_n 1, 1) := by decide +kernel
theorem dX10_about_211 : decode cX10_about 211 = .ok (.imul, 1) := by decide +kernel
theorem dX10_about_212 : decode cX10_about 212 = .ok (.aload_n 0, 1) := by decide +kernel
theorem dX10_about_213 : decode cX10_about 213 = .ok (.getfield 136, 3) := by decide +kernel
theorem dX10_about_216 : decode cX10_about 216 = .ok (.invokevirtual 270, 3) := by decide +kernel
theorem dX10_about_219 : decode cX10_about 219 = .ok (.ireturn, 1) := by decide +kernel
theorem dX10_about_220 : decode cX10_about 220 = .ok (.iconst (-1), 1) := by decide +kernel
theorem dX10_about_221 : decode cX10_about 221 = .ok (.ireturn, 1) := by decide +kernel
set_option maxRecDepth 20000 in
theorem ggX10_held_X10_isPeer : GoodIn wsX10_held wsX10_isPeer := goodIn_r _ [6, 7, 8, 9, 5, 10, 25, 26, 27, 28, 29, 30, 31, 32, 33, 34, 35, 36, 37, 38, 39, 40, 41, 42, 43, 44, 45, 46, 47, 48, 49, 50, 51, 52, 53, 54, 55, 56, 57, 58, 59, 60, 61, 62, 63, 64, 65, 66, 67, 68, 69] (by decide +kernel) (by decide +kernel)
set_option maxRecDepth 20000 in
theorem gX10_held_X10_isPeer : GoodIn wsX10_held (wsV RX10 147 RX10 yX10_isPeer wsX10_isPeer) := goodIn_app (goodIn_of _ (by decide +kernel)) ggX10_held_X10_isPeer
set_option maxRecDepth 20000 in
theorem ggX10_held_X10_isBlock : GoodIn wsX10_held wsX10_isBlock := goodIn_r _ [14, 15, 16, 8, 9, 5, 10, 25, 26, 27, 28, 29, 30, 31, 32, 33, 34, 35, 36, 37, 38, 39, 40, 41, 42, 43, 44, 45, 46, 47, 48, 49, 50, 51, 52, 53, 54, 55, 56, 57, 58, 59, 60, 61, 62, 63, 64, 65, 66, 67, 68, 69] (by decide +kernel) (by decide +kernel)
set_option maxRecDepth 20000 in
theorem gX10_held_X10_isBlock : GoodIn wsX10_held (wsV RX10 139 RX10 yX10_isBlock wsX10_isBlock) := goodIn_app (goodIn_of _ (by decide +kernel)) ggX10_held_X10_isBlock
set_option maxRecDepth 20000 in
theorem ggX10_held_X10_heldMany : GoodIn wsX10_held wsX10_heldMany := goodIn_r _ [20, 16, 21, 22, 23, 5, 24, 25, 26, 27, 28, 29, 30, 31, 32, 33, 34, 35, 36, 37, 38, 39, 40, 41, 42, 43, 44, 45, 46, 47, 48, 49, 50, 51, 52, 53, 54, 55, 56, 57, 58, 59, 60, 61, 62, 63, 64, 65, 66, 67, 68, 69] (by decide +kernel) (by decide +kernel)
set_option maxRecDepth 20000 in
theorem gX10_held_X10_heldMany : GoodIn wsX10_held (wsV RX10 193 RX10 yX10_heldMany wsX10_heldMany) := goodIn_app (goodIn_of _ (by decide +kernel)) ggX10_held_X10_heldMany
theorem dX10_held_0 : decode cX10_held 0 = .ok (.aload_n 0, 1) := by decide +kernel
theorem dX10_held_1 : decode cX10_held 1 = .ok (.iconst 0, 1) := by decide +kernel
theorem dX10_held_2 : decode cX10_held 2 = .ok (.putfield 120, 3) := by decide +kernel
theorem dX10_held_5 : decode cX10_held 5 = .ok (.aload_n 0, 1) := by decide +kernel
theorem dX10_held_6 : decode cX10_held 6 = .ok (.iload_n 1, 1) := by decide +kernel
theorem dX10_held_7 : decode cX10_held 7 = .ok (.invokevirtual 147, 3) := by decide +kernel
theorem dX10_held_10 : decode cX10_held 10 = .ok (.ifCond .eq 21, 3) := by decide +kernel
theorem dX10_held_13 : decode cX10_held 13 = .ok (.aload_n 0, 1) := by decide +kernel
theorem dX10_held_14 : decode cX10_held 14 = .ok (.iload_n 2, 1) := by decide +kernel
theorem dX10_held_15 : decode cX10_held 15 = .ok (.iconst 0, 1) := by decide +kernel
theorem dX10_held_16 : decode cX10_held 16 = .ok (.invokevirtual 139, 3) := by decide +kernel
theorem dX10_held_19 : decode cX10_held 19 = .ok (.ifCond .eq 12, 3) := by decide +kernel
theorem dX10_held_22 : decode cX10_held 22 = .ok (.aload_n 0, 1) := by decide +kernel
theorem dX10_held_23 : decode cX10_held 23 = .ok (.iload_n 1, 1) := by decide +kernel
theorem dX10_held_24 : decode cX10_held 24 = .ok (.iload_n 2, 1) := by decide +kernel
theorem dX10_held_25 : decode cX10_held 25 = .ok (.invokevirtual 193, 3) := by decide +kernel
theorem dX10_held_28 : decode cX10_held 28 = .ok (.goto 4, 3) := by decide +kernel
theorem dX10_held_31 : decode cX10_held 31 = .ok (.iconst (-1), 1) := by decide +kernel
theorem dX10_held_32 : decode cX10_held 32 = .ok (.ireturn, 1) := by decide +kernel
set_option maxRecDepth 20000 in
theorem ggX10_from_X10_isPeer : GoodIn wsX10_from wsX10_isPeer := goodIn_r _ [8, 9, 10, 11, 7, 12, 22, 23, 24, 25, 26, 27, 28, 29, 30, 31, 32, 33, 34, 35, 36, 37, 38, 39, 40, 41, 42, 43, 44, 45, 46, 47, 48, 49, 50, 51, 52, 53, 54, 55, 56, 57, 58, 59, 60, 61, 62, 63, 64, 65, 66] (by decide +kernel) (by decide +kernel)
set_option maxRecDepth 20000 in
theorem gX10_from_X10_isPeer : GoodIn wsX10_from (wsV RX10 147 RX10 yX10_isPeer wsX10_isPeer) := goodIn_app (goodIn_of _ (by decide +kernel)) ggX10_from_X10_isPeer
set_option maxRecDepth 20000 in
theorem ggX10_from_X10_isBlock : GoodIn wsX10_from wsX10_isBlock := goodIn_r _ [16, 17, 18, 10, 11, 7, 12, 22, 23, 24, 25, 26, 27, 28, 29, 30, 31, 32, 33, 34, 35, 36, 37, 38, 39, 40, 41, 42, 43, 44, 45, 46, 47, 48, 49, 50, 51, 52, 53, 54, 55, 56, 57, 58, 59, 60, 61, 62, 63, 64, 65, 66] (by decide +kernel) (by decide +kernel)
set_option maxRecDepth 20000 in
theorem gX10_from_X10_isBlock : GoodIn wsX10_from (wsV RX10 139 RX10 yX10_isBlock wsX10_isBlock) := goodIn_app (goodIn_of _ (by decide +kernel)) ggX10_from_X10_isBlock
set_option maxRecDepth 20000 in
theorem ggX10_from_X10_cell : GoodIn wsX10_from wsX10_cell := goodIn_r _ [21] (by decide +kernel) (by decide +kernel)
set_option maxRecDepth 20000 in
theorem gX10_from_X10_cell : GoodIn wsX10_from (va_wsS RX10 163 yX10_cell wsX10_cell) := goodIn_app (goodIn_of _ (by decide +kernel)) ggX10_from_X10_cell
theorem dX10_from_0 : decode cX10_from 0 = .ok (.aload_n 0, 1) := by decide +kernel
theorem dX10_from_1 : decode cX10_from 1 = .ok (.iconst 0, 1) := by decide +kernel
theorem dX10_from_2 : decode cX10_from 2 = .ok (.putfield 120, 3) := by decide +kernel
theorem dX10_from_5 : decode cX10_from 5 = .ok (.aload_n 0, 1) := by decide +kernel
theorem dX10_from_6 : decode cX10_from 6 = .ok (.iload_n 1, 1) := by decide +kernel
theorem dX10_from_7 : decode cX10_from 7 = .ok (.invokevirtual 147, 3) := by decide +kernel
theorem dX10_from_10 : decode cX10_from 10 = .ok (.ifCond .eq 40, 3) := by decide +kernel
theorem dX10_from_13 : decode cX10_from 13 = .ok (.aload_n 0, 1) := by decide +kernel
theorem dX10_from_14 : decode cX10_from 14 = .ok (.iload_n 2, 1) := by decide +kernel
theorem dX10_from_15 : decode cX10_from 15 = .ok (.iload_n 3, 1) := by decide +kernel
theorem dX10_from_16 : decode cX10_from 16 = .ok (.invokevirtual 139, 3) := by decide +kernel
theorem dX10_from_19 : decode cX10_from 19 = .ok (.ifCond .eq 31, 3) := by decide +kernel
theorem dX10_from_22 : decode cX10_from 22 = .ok (.aload_n 0, 1) := by decide +kernel
theorem dX10_from_23 : decode cX10_from 23 = .ok (.getfield 54, 3) := by decide +kernel
theorem dX10_from_26 : decode cX10_from 26 = .ok (.iload_n 1, 1) := by decide +kernel
theorem dX10_from_27 : decode cX10_from 27 = .ok (.iload_n 2, 1) := by decide +kernel
theorem dX10_from_28 : decode cX10_from 28 = .ok (.iload_n 3, 1) := by decide +kernel
theorem dX10_from_29 : decode cX10_from 29 = .ok (.invokestatic 163, 3) := by decide +kernel
theorem dX10_from_32 : decode cX10_from 32 = .ok (.baload, 1) := by decide +kernel
theorem dX10_from_33 : decode cX10_from 33 = .ok (.ifCond .eq 17, 3) := by decide +kernel
theorem dX10_from_36 : decode cX10_from 36 = .ok (.aload_n 0, 1) := by decide +kernel
theorem dX10_from_37 : decode cX10_from 37 = .ok (.getfield 60, 3) := by decide +kernel
theorem dX10_from_40 : decode cX10_from 40 = .ok (.iload_n 1, 1) := by decide +kernel
theorem dX10_from_41 : decode cX10_from 41 = .ok (.iload_n 2, 1) := by decide +kernel
theorem dX10_from_42 : decode cX10_from 42 = .ok (.iload_n 3, 1) := by decide +kernel
theorem dX10_from_43 : decode cX10_from 43 = .ok (.invokestatic 163, 3) := by decide +kernel
theorem dX10_from_46 : decode cX10_from 46 = .ok (.iaload, 1) := by decide +kernel
theorem dX10_from_47 : decode cX10_from 47 = .ok (.goto 4, 3) := by decide +kernel
theorem dX10_from_50 : decode cX10_from 50 = .ok (.iconst (-1), 1) := by decide +kernel
theorem dX10_from_51 : decode cX10_from 51 = .ok (.ireturn, 1) := by decide +kernel
set_option maxRecDepth 20000 in
theorem ggX10_got_X10_isPeer : GoodIn wsX10_got wsX10_isPeer := goodIn_r _ [8, 9, 10, 11, 7, 12, 22, 23, 24, 25, 26, 27, 28, 29, 30, 31, 32, 33, 34, 35, 36, 37, 38, 39, 40, 41, 42, 43, 44, 45, 46, 47, 48, 49, 50, 51, 52, 53, 54, 55, 56, 57, 58, 59, 60, 61, 62, 63, 64, 65, 66] (by decide +kernel) (by decide +kernel)
set_option maxRecDepth 20000 in
theorem gX10_got_X10_isPeer : GoodIn wsX10_got (wsV RX10 147 RX10 yX10_isPeer wsX10_isPeer) := goodIn_app (goodIn_of _ (by decide +kernel)) ggX10_got_X10_isPeer
set_option maxRecDepth 20000 in
theorem ggX10_got_X10_isBlock : GoodIn wsX10_got wsX10_isBlock := goodIn_r _ [16, 17, 18, 10, 11, 7, 12, 22, 23, 24, 25, 26, 27, 28, 29, 30, 31, 32, 33, 34, 35, 36, 37, 38, 39, 40, 41, 42, 43, 44, 45, 46, 47, 48, 49, 50, 51, 52, 53, 54, 55, 56, 57, 58, 59, 60, 61, 62, 63, 64, 65, 66] (by decide +kernel) (by decide +kernel)
set_option maxRecDepth 20000 in
theorem gX10_got_X10_isBlock : GoodIn wsX10_got (wsV RX10 139 RX10 yX10_isBlock wsX10_isBlock) := goodIn_app (goodIn_of _ (by decide +kernel)) ggX10_got_X10_isBlock
set_option maxRecDepth 20000 in
theorem ggX10_got_X10_cell : GoodIn wsX10_got wsX10_cell := goodIn_r _ [21] (by decide +kernel) (by decide +kernel)
set_option maxRecDepth 20000 in
theorem gX10_got_X10_cell : GoodIn wsX10_got (va_wsS RX10 163 yX10_cell wsX10_cell) := goodIn_app (goodIn_of _ (by decide +kernel)) ggX10_got_X10_cell
theorem dX10_got_0 : decode cX10_got 0 = .ok (.aload_n 0, 1) := by decide +kernel
theorem dX10_got_1 : decode cX10_got 1 = .ok (.iconst 0, 1) := by decide +kernel
theorem dX10_got_2 : decode cX10_got 2 = .ok (.putfield 120, 3) := by decide +kernel
theorem dX10_got_5 : decode cX10_got 5 = .ok (.aload_n 0, 1) := by decide +kernel
theorem dX10_got_6 : decode cX10_got 6 = .ok (.iload_n 1, 1) := by decide +kernel
theorem dX10_got_7 : decode cX10_got 7 = .ok (.invokevirtual 147, 3) := by decide +kernel
theorem dX10_got_10 : decode cX10_got 10 = .ok (.ifCond .eq 40, 3) := by decide +kernel
theorem dX10_got_13 : decode cX10_got 13 = .ok (.aload_n 0, 1) := by decide +kernel
theorem dX10_got_14 : decode cX10_got 14 = .ok (.iload_n 2, 1) := by decide +kernel
theorem dX10_got_15 : decode cX10_got 15 = .ok (.iload_n 3, 1) := by decide +kernel
theorem dX10_got_16 : decode cX10_got 16 = .ok (.invokevirtual 139, 3) := by decide +kernel
theorem dX10_got_19 : decode cX10_got 19 = .ok (.ifCond .eq 31, 3) := by decide +kernel
theorem dX10_got_22 : decode cX10_got 22 = .ok (.aload_n 0, 1) := by decide +kernel
theorem dX10_got_23 : decode cX10_got 23 = .ok (.getfield 54, 3) := by decide +kernel
theorem dX10_got_26 : decode cX10_got 26 = .ok (.iload_n 1, 1) := by decide +kernel
theorem dX10_got_27 : decode cX10_got 27 = .ok (.iload_n 2, 1) := by decide +kernel
theorem dX10_got_28 : decode cX10_got 28 = .ok (.iload_n 3, 1) := by decide +kernel
theorem dX10_got_29 : decode cX10_got 29 = .ok (.invokestatic 163, 3) := by decide +kernel
theorem dX10_got_32 : decode cX10_got 32 = .ok (.baload, 1) := by decide +kernel
theorem dX10_got_33 : decode cX10_got 33 = .ok (.ifCond .eq 17, 3) := by decide +kernel
