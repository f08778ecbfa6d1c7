theorem dX10_giver_83 : decode cX10_giver 83 = .ok (.iinc 6 1, 3) := by decide +kernel
theorem dX10_giver_86 : decode cX10_giver 86 = .ok (.goto (-80), 3) := by decide +kernel
theorem dX10_giver_89 : decode cX10_giver 89 = .ok (.iload 5, 2) := by decide +kernel
theorem dX10_giver_91 : decode cX10_giver 91 = .ok (.ireturn, 1) := by decide +kernel
set_option maxRecDepth 20000 in
theorem ggX10_nextBlock_X10_cell : GoodIn wsX10_nextBlock wsX10_cell := goodIn_r _ [6] (by decide +kernel) (by decide +kernel)
set_option maxRecDepth 20000 in
theorem gX10_nextBlock_X10_cell : GoodIn wsX10_nextBlock (va_wsS RX10 163 yX10_cell wsX10_cell) := goodIn_app (goodIn_of _ (by decide +kernel)) ggX10_nextBlock_X10_cell
set_option maxRecDepth 20000 in
theorem ggX10_nextBlock_X10_coming : GoodIn wsX10_nextBlock wsX10_coming := goodIn_r _ [10, 11, 12, 13, 14, 15, 16, 17, 18, 19, 20, 21, 22, 23, 24, 25, 26, 27, 28, 29, 30, 31, 32, 33, 34, 35, 36, 37, 38, 39, 40, 41, 42, 43, 44, 45, 46, 47, 48, 49, 50, 51, 52, 53, 54, 55, 56, 57, 58, 59] (by decide +kernel) (by decide +kernel)
set_option maxRecDepth 20000 in
theorem gX10_nextBlock_X10_coming : GoodIn wsX10_nextBlock (wsV RX10 218 RX10 yX10_coming wsX10_coming) := goodIn_app (goodIn_of _ (by decide +kernel)) ggX10_nextBlock_X10_coming
theorem dX10_nextBlock_0 : decode cX10_nextBlock 0 = .ok (.iconst 0, 1) := by decide +kernel
theorem dX10_nextBlock_1 : decode cX10_nextBlock 1 = .ok (.istore_n 3, 1) := by decide +kernel
theorem dX10_nextBlock_2 : decode cX10_nextBlock 2 = .ok (.iload_n 3, 1) := by decide +kernel
theorem dX10_nextBlock_3 : decode cX10_nextBlock 3 = .ok (.aload_n 0, 1) := by decide +kernel
theorem dX10_nextBlock_4 : decode cX10_nextBlock 4 = .ok (.getfield 13, 3) := by decide +kernel
theorem dX10_nextBlock_7 : decode cX10_nextBlock 7 = .ok (.if_icmp .ge 35, 3) := by decide +kernel
theorem dX10_nextBlock_10 : decode cX10_nextBlock 10 = .ok (.aload_n 0, 1) := by decide +kernel
theorem dX10_nextBlock_11 : decode cX10_nextBlock 11 = .ok (.getfield 54, 3) := by decide +kernel
theorem dX10_nextBlock_14 : decode cX10_nextBlock 14 = .ok (.iload_n 1, 1) := by decide +kernel
theorem dX10_nextBlock_15 : decode cX10_nextBlock 15 = .ok (.iload_n 2, 1) := by decide +kernel
theorem dX10_nextBlock_16 : decode cX10_nextBlock 16 = .ok (.iload_n 3, 1) := by decide +kernel
theorem dX10_nextBlock_17 : decode cX10_nextBlock 17 = .ok (.invokestatic 163, 3) := by decide +kernel
theorem dX10_nextBlock_20 : decode cX10_nextBlock 20 = .ok (.baload, 1) := by decide +kernel
theorem dX10_nextBlock_21 : decode cX10_nextBlock 21 = .ok (.ifCond .ne 15, 3) := by decide +kernel
theorem dX10_nextBlock_24 : decode cX10_nextBlock 24 = .ok (.aload_n 0, 1) := by decide +kernel
theorem dX10_nextBlock_25 : decode cX10_nextBlock 25 = .ok (.iload_n 1, 1) := by decide +kernel
theorem dX10_nextBlock_26 : decode cX10_nextBlock 26 = .ok (.iload_n 2, 1) := by decide +kernel
theorem dX10_nextBlock_27 : decode cX10_nextBlock 27 = .ok (.iload_n 3, 1) := by decide +kernel
theorem dX10_nextBlock_28 : decode cX10_nextBlock 28 = .ok (.invokevirtual 218, 3) := by decide +kernel
theorem dX10_nextBlock_31 : decode cX10_nextBlock 31 = .ok (.ifCond .ne 5, 3) := by decide +kernel
theorem dX10_nextBlock_34 : decode cX10_nextBlock 34 = .ok (.iload_n 3, 1) := by decide +kernel
theorem dX10_nextBlock_35 : decode cX10_nextBlock 35 = .ok (.ireturn, 1) := by decide +kernel
theorem dX10_nextBlock_36 : decode cX10_nextBlock 36 = .ok (.iinc 3 1, 3) := by decide +kernel
theorem dX10_nextBlock_39 : decode cX10_nextBlock 39 = .ok (.goto (-37), 3) := by decide +kernel
theorem dX10_nextBlock_42 : decode cX10_nextBlock 42 = .ok (.iconst (-1), 1) := by decide +kernel
theorem dX10_nextBlock_43 : decode cX10_nextBlock 43 = .ok (.ireturn, 1) := by decide +kernel
set_option maxRecDepth 20000 in
theorem ggX10_isBegun_X10_heldMany : GoodIn wsX10_isBegun wsX10_heldMany := goodIn_r _ [6, 1, 7, 8, 9, 5, 10, 19, 20, 21, 22, 23, 24, 25, 26, 27, 28, 29, 30, 31, 32, 33, 34, 35, 36, 37, 38, 39, 40, 41, 42, 43, 44, 45, 46, 47, 48, 49, 50, 51, 52, 53, 54, 55, 56, 57, 58, 59, 60, 61, 62, 63] (by decide +kernel) (by decide +kernel)
set_option maxRecDepth 20000 in
theorem gX10_isBegun_X10_heldMany : GoodIn wsX10_isBegun (wsV RX10 193 RX10 yX10_heldMany wsX10_heldMany) := goodIn_app (goodIn_of _ (by decide +kernel)) ggX10_isBegun_X10_heldMany
set_option maxRecDepth 20000 in
theorem ggX10_isBegun_X10_coming : GoodIn wsX10_isBegun wsX10_coming := goodIn_r _ [14, 15, 16, 17, 18, 19, 20, 21, 22, 23, 24, 25, 26, 27, 28, 29, 30, 31, 32, 33, 34, 35, 36, 37, 38, 39, 40, 41, 42, 43, 44, 45, 46, 47, 48, 49, 50, 51, 52, 53, 54, 55, 56, 57, 58, 59, 60, 61, 62, 63] (by decide +kernel) (by decide +kernel)
set_option maxRecDepth 20000 in
theorem gX10_isBegun_X10_coming : GoodIn wsX10_isBegun (wsV RX10 218 RX10 yX10_coming wsX10_coming) := goodIn_app (goodIn_of _ (by decide +kernel)) ggX10_isBegun_X10_coming
theorem dX10_isBegun_0 : decode cX10_isBegun 0 = .ok (.aload_n 0, 1) := by decide +kernel
theorem dX10_isBegun_1 : decode cX10_isBegun 1 = .ok (.iload_n 1, 1) := by decide +kernel
theorem dX10_isBegun_2 : decode cX10_isBegun 2 = .ok (.iload_n 2, 1) := by decide +kernel
theorem dX10_isBegun_3 : decode cX10_isBegun 3 = .ok (.invokevirtual 193, 3) := by decide +kernel
theorem dX10_isBegun_6 : decode cX10_isBegun 6 = .ok (.ifCond .le 7, 3) := by decide +kernel
theorem dX10_isBegun_9 : decode cX10_isBegun 9 = .ok (.iconst 1, 1) := by decide +kernel
theorem dX10_isBegun_10 : decode cX10_isBegun 10 = .ok (.goto 4, 3) := by decide +kernel
theorem dX10_isBegun_13 : decode cX10_isBegun 13 = .ok (.iconst 0, 1) := by decide +kernel
theorem dX10_isBegun_14 : decode cX10_isBegun 14 = .ok (.istore_n 3, 1) := by decide +kernel
theorem dX10_isBegun_15 : decode cX10_isBegun 15 = .ok (.iconst 0, 1) := by decide +kernel
theorem dX10_isBegun_16 : decode cX10_isBegun 16 = .ok (.istore 4, 2) := by decide +kernel
theorem dX10_isBegun_18 : decode cX10_isBegun 18 = .ok (.iload 4, 2) := by decide +kernel
theorem dX10_isBegun_20 : decode cX10_isBegun 20 = .ok (.aload_n 0, 1) := by decide +kernel
theorem dX10_isBegun_21 : decode cX10_isBegun 21 = .ok (.getfield 13, 3) := by decide +kernel
theorem dX10_isBegun_24 : decode cX10_isBegun 24 = .ok (.if_icmp .ge 30, 3) := by decide +kernel
theorem dX10_isBegun_27 : decode cX10_isBegun 27 = .ok (.iload_n 3, 1) := by decide +kernel
theorem dX10_isBegun_28 : decode cX10_isBegun 28 = .ok (.ifCond .ne 14, 3) := by decide +kernel
theorem dX10_isBegun_31 : decode cX10_isBegun 31 = .ok (.aload_n 0, 1) := by decide +kernel
theorem dX10_isBegun_32 : decode cX10_isBegun 32 = .ok (.iload_n 1, 1) := by decide +kernel
theorem dX10_isBegun_33 : decode cX10_isBegun 33 = .ok (.iload_n 2, 1) := by decide +kernel
theorem dX10_isBegun_34 : decode cX10_isBegun 34 = .ok (.iload 4, 2) := by decide +kernel
theorem dX10_isBegun_36 : decode cX10_isBegun 36 = .ok (.invokevirtual 218, 3) := by decide +kernel
theorem dX10_isBegun_39 : decode cX10_isBegun 39 = .ok (.ifCond .le 7, 3) := by decide +kernel
theorem dX10_isBegun_42 : decode cX10_isBegun 42 = .ok (.iconst 1, 1) := by decide +kernel
theorem dX10_isBegun_43 : decode cX10_isBegun 43 = .ok (.goto 4, 3) := by decide +kernel
theorem dX10_isBegun_46 : decode cX10_isBegun 46 = .ok (.iconst 0, 1) := by decide +kernel
theorem dX10_isBegun_47 : decode cX10_isBegun 47 = .ok (.istore_n 3, 1) := by decide +kernel
theorem dX10_isBegun_48 : decode cX10_isBegun 48 = .ok (.iinc 4 1, 3) := by decide +kernel
theorem dX10_isBegun_51 : decode cX10_isBegun 51 = .ok (.goto (-33), 3) := by decide +kernel
theorem dX10_isBegun_54 : decode cX10_isBegun 54 = .ok (.iload_n 3, 1) := by decide +kernel
theorem dX10_isBegun_55 : decode cX10_isBegun 55 = .ok (.ireturn, 1) := by decide +kernel
set_option maxRecDepth 20000 in
theorem ggX10_tellers_X10_isNear : GoodIn wsX10_tellers wsX10_isNear := goodIn_r _ [6, 7, 8, 9, 10, 11, 5, 12, 19, 20, 21, 22, 23, 24, 25, 26, 27, 28, 29, 30, 31, 32, 33, 34, 35, 36, 37, 38, 39, 40, 41, 42, 43, 44, 45, 46, 47, 48, 49, 50, 51, 52, 53, 54, 55, 56, 57, 58, 59, 60, 61, 62, 63] (by decide +kernel) (by decide +kernel)
set_option maxRecDepth 20000 in
theorem gX10_tellers_X10_isNear : GoodIn wsX10_tellers (wsV RX10 154 RX10 yX10_isNear wsX10_isNear) := goodIn_app (goodIn_of _ (by decide +kernel)) ggX10_tellers_X10_isNear
set_option maxRecDepth 20000 in
theorem ggX10_tellers_X10_tells : GoodIn wsX10_tellers wsX10_tells := goodIn_r _ [16, 17, 18, 19, 20, 21, 22, 23, 24, 25, 26, 27, 28, 29, 30, 31, 32, 33, 34, 35, 36, 37, 38, 39, 40, 41, 42, 43, 44, 45, 46, 47, 48, 49, 50, 51, 52, 53, 54, 55, 56, 57, 58, 59, 60, 61, 62, 63] (by decide +kernel) (by decide +kernel)
set_option maxRecDepth 20000 in
theorem gX10_tellers_X10_tells : GoodIn wsX10_tellers (wsV RX10 157 RX10 yX10_tells wsX10_tells) := goodIn_app (goodIn_of _ (by decide +kernel)) ggX10_tellers_X10_tells
theorem dX10_tellers_0 : decode cX10_tellers 0 = .ok (.iconst 0, 1) := by decide +kernel
theorem dX10_tellers_1 : decode cX10_tellers 1 = .ok (.istore_n 3, 1) := by decide +kernel
theorem dX10_tellers_2 : decode cX10_tellers 2 = .ok (.iconst 0, 1) := by decide +kernel
theorem dX10_tellers_3 : decode cX10_tellers 3 = .ok (.istore 4, 2) := by decide +kernel
theorem dX10_tellers_5 : decode cX10_tellers 5 = .ok (.iload 4, 2) := by decide +kernel
theorem dX10_tellers_7 : decode cX10_tellers 7 = .ok (.aload_n 0, 1) := by decide +kernel
theorem dX10_tellers_8 : decode cX10_tellers 8 = .ok (.getfield 136, 3) := by decide +kernel
theorem dX10_tellers_11 : decode cX10_tellers 11 = .ok (.if_icmp .ge 43, 3) := by decide +kernel
theorem dX10_tellers_14 : decode cX10_tellers 14 = .ok (.iload_n 3, 1) := by decide +kernel
theorem dX10_tellers_15 : decode cX10_tellers 15 = .ok (.iload 4, 2) := by decide +kernel
theorem dX10_tellers_17 : decode cX10_tellers 17 = .ok (.iload_n 1, 1) := by decide +kernel
theorem dX10_tellers_18 : decode cX10_tellers 18 = .ok (.if_icmp .eq 27, 3) := by decide +kernel
theorem dX10_tellers_21 : decode cX10_tellers 21 = .ok (.aload_n 0, 1) := by decide +kernel
theorem dX10_tellers_22 : decode cX10_tellers 22 = .ok (.iload 4, 2) := by decide +kernel
theorem dX10_tellers_24 : decode cX10_tellers 24 = .ok (.iload_n 1, 1) := by decide +kernel
theorem dX10_tellers_25 : decode cX10_tellers 25 = .ok (.invokevirtual 154, 3) := by decide +kernel
theorem dX10_tellers_28 : decode cX10_tellers 28 = .ok (.ifCond .eq 17, 3) := by decide +kernel
theorem dX10_tellers_31 : decode cX10_tellers 31 = .ok (.aload_n 0, 1) := by decide +kernel
theorem dX10_tellers_32 : decode cX10_tellers 32 = .ok (.iload 4, 2) := by decide +kernel
theorem dX10_tellers_34 : decode cX10_tellers 34 = .ok (.iload_n 2, 1) := by decide +kernel
theorem dX10_tellers_35 : decode cX10_tellers 35 = .ok (.invokevirtual 157, 3) := by decide +kernel
theorem dX10_tellers_38 : decode cX10_tellers 38 = .ok (.ifCond .eq 7, 3) := by decide +kernel
theorem dX10_tellers_41 : decode cX10_tellers 41 = .ok (.iconst 1, 1) := by decide +kernel
theorem dX10_tellers_42 : decode cX10_tellers 42 = .ok (.goto 4, 3) := by decide +kernel
theorem dX10_tellers_45 : decode cX10_tellers 45 = .ok (.iconst 0, 1) := by decide +kernel
theorem dX10_tellers_46 : decode cX10_tellers 46 = .ok (.iadd, 1) := by decide +kernel
theorem dX10_tellers_47 : decode cX10_tellers 47 = .ok (.istore_n 3, 1) := by decide +kernel
theorem dX10_tellers_48 : decode cX10_tellers 48 = .ok (.iinc 4 1, 3) := by decide +kernel
theorem dX10_tellers_51 : decode cX10_tellers 51 = .ok (.goto (-46), 3) := by decide +kernel
theorem dX10_tellers_54 : decode cX10_tellers 54 = .ok (.iload_n 3, 1) := by decide +kernel
theorem dX10_tellers_55 : decode cX10_tellers 55 = .ok (.ireturn, 1) := by decide +kernel
set_option maxRecDepth 20000 in
theorem ggX10_sends_X10_two : GoodIn wsX10_sends wsX10_two := goodIn_r _ [21] (by decide +kernel) (by decide +kernel)
set_option maxRecDepth 20000 in
theorem gX10_sends_X10_two : GoodIn wsX10_sends (va_wsS RX10 151 yX10_two wsX10_two) := goodIn_app (goodIn_of _ (by decide +kernel)) ggX10_sends_X10_two
set_option maxRecDepth 20000 in
theorem ggX10_sends_X10_valueOf : GoodIn wsX10_sends wsX10_valueOf := goodIn_r _ [25, 26, 27, 28, 29, 30, 31, 32, 33, 34, 35, 36, 37, 38, 39, 40, 41, 42, 43, 44, 45, 46, 47, 48, 49, 50, 51, 52, 53, 54, 55, 56, 57, 58, 59, 60, 61, 62, 63, 64, 65, 66, 67, 68, 69, 70, 71, 72] (by decide +kernel) (by decide +kernel)
set_option maxRecDepth 20000 in
theorem gX10_sends_X10_valueOf : GoodIn wsX10_sends (wsV RX10 128 RX10 yX10_valueOf wsX10_valueOf) := goodIn_app (goodIn_of _ (by decide +kernel)) ggX10_sends_X10_valueOf
theorem dX10_sends_0 : decode cX10_sends 0 = .ok (.aload_n 0, 1) := by decide +kernel
theorem dX10_sends_1 : decode cX10_sends 1 = .ok (.getfield 114, 3) := by decide +kernel
theorem dX10_sends_4 : decode cX10_sends 4 = .ok (.iload_n 1, 1) := by decide +kernel
theorem dX10_sends_5 : decode cX10_sends 5 = .ok (.dup2, 1) := by decide +kernel
theorem dX10_sends_6 : decode cX10_sends 6 = .ok (.iaload, 1) := by decide +kernel
theorem dX10_sends_7 : decode cX10_sends 7 = .ok (.iconst 1, 1) := by decide +kernel
theorem dX10_sends_8 : decode cX10_sends 8 = .ok (.isub, 1) := by decide +kernel
theorem dX10_sends_9 : decode cX10_sends 9 = .ok (.iastore, 1) := by decide +kernel
theorem dX10_sends_10 : decode cX10_sends 10 = .ok (.aload_n 0, 1) := by decide +kernel
theorem dX10_sends_11 : decode cX10_sends 11 = .ok (.getfield 117, 3) := by decide +kernel
theorem dX10_sends_14 : decode cX10_sends 14 = .ok (.iload_n 2, 1) := by decide +kernel
theorem dX10_sends_15 : decode cX10_sends 15 = .ok (.dup2, 1) := by decide +kernel
theorem dX10_sends_16 : decode cX10_sends 16 = .ok (.iaload, 1) := by decide +kernel
theorem dX10_sends_17 : decode cX10_sends 17 = .ok (.iconst 1, 1) := by decide +kernel
theorem dX10_sends_18 : decode cX10_sends 18 = .ok (.isub, 1) := by decide +kernel
theorem dX10_sends_19 : decode cX10_sends 19 = .ok (.iastore, 1) := by decide +kernel
theorem dX10_sends_20 : decode cX10_sends 20 = .ok (.aload_n 0, 1) := by decide +kernel
theorem dX10_sends_21 : decode cX10_sends 21 = .ok (.getfield 36, 3) := by decide +kernel
theorem dX10_sends_24 : decode cX10_sends 24 = .ok (.iload_n 1, 1) := by decide +kernel
theorem dX10_sends_25 : decode cX10_sends 25 = .ok (.dup2, 1) := by decide +kernel
theorem dX10_sends_26 : decode cX10_sends 26 = .ok (.iaload, 1) := by decide +kernel
theorem dX10_sends_27 : decode cX10_sends 27 = .ok (.iconst 1, 1) := by decide +kernel
theorem dX10_sends_28 : decode cX10_sends 28 = .ok (.iadd, 1) := by decide +kernel
theorem dX10_sends_29 : decode cX10_sends 29 = .ok (.iastore, 1) := by decide +kernel
theorem dX10_sends_30 : decode cX10_sends 30 = .ok (.aload_n 0, 1) := by decide +kernel
theorem dX10_sends_31 : decode cX10_sends 31 = .ok (.dup, 1) := by decide +kernel
theorem dX10_sends_32 : decode cX10_sends 32 = .ok (.getfield 221, 3) := by decide +kernel
theorem dX10_sends_35 : decode cX10_sends 35 = .ok (.iconst 1, 1) := by decide +kernel
theorem dX10_sends_36 : decode cX10_sends 36 = .ok (.iadd, 1) := by decide +kernel
theorem dX10_sends_37 : decode cX10_sends 37 = .ok (.putfield 221, 3) := by decide +kernel
theorem dX10_sends_40 : decode cX10_sends 40 = .ok (.aload_n 0, 1) := by decide +kernel
theorem dX10_sends_41 : decode cX10_sends 41 = .ok (.getfield 75, 3) := by decide +kernel
theorem dX10_sends_44 : decode cX10_sends 44 = .ok (.iload_n 1, 1) := by decide +kernel
theorem dX10_sends_45 : decode cX10_sends 45 = .ok (.iload_n 2, 1) := by decide +kernel
theorem dX10_sends_46 : decode cX10_sends 46 = .ok (.invokestatic 151, 3) := by decide +kernel
theorem dX10_sends_49 : decode cX10_sends 49 = .ok (.dup2, 1) := by decide +kernel
theorem dX10_sends_50 : decode cX10_sends 50 = .ok (.iaload, 1) := by decide +kernel
theorem dX10_sends_51 : decode cX10_sends 51 = .ok (.iconst 1, 1) := by decide +kernel
theorem dX10_sends_52 : decode cX10_sends 52 = .ok (.iadd, 1) := by decide +kernel
theorem dX10_sends_53 : decode cX10_sends 53 = .ok (.iastore, 1) := by decide +kernel
theorem dX10_sends_54 : decode cX10_sends 54 = .ok (.aload_n 0, 1) := by decide +kernel
theorem dX10_sends_55 : decode cX10_sends 55 = .ok (.getfield 78, 3) := by decide +kernel
theorem dX10_sends_58 : decode cX10_sends 58 = .ok (.iload_n 1, 1) := by decide +kernel
theorem dX10_sends_59 : decode cX10_sends 59 = .ok (.iload_n 2, 1) := by decide +kernel
theorem dX10_sends_60 : decode cX10_sends 60 = .ok (.invokestatic 151, 3) := by decide +kernel
theorem dX10_sends_63 : decode cX10_sends 63 = .ok (.dup2, 1) := by decide +kernel
theorem dX10_sends_64 : decode cX10_sends 64 = .ok (.iaload, 1) := by decide +kernel
theorem dX10_sends_65 : decode cX10_sends 65 = .ok (.iconst 1, 1) := by decide +kernel
theorem dX10_sends_66 : decode cX10_sends 66 = .ok (.iadd, 1) := by decide +kernel
theorem dX10_sends_67 : decode cX10_sends 67 = .ok (.iastore, 1) := by decide +kernel
theorem dX10_sends_68 : decode cX10_sends 68 = .ok (.aload_n 0, 1) := by decide +kernel
theorem dX10_sends_69 : decode cX10_sends 69 = .ok (.getfield 90, 3) := by decide +kernel
theorem dX10_sends_72 : decode cX10_sends 72 = .ok (.aload_n 0, 1) := by decide +kernel
theorem dX10_sends_73 : decode cX10_sends 73 = .ok (.getfield 170, 3) := by decide +kernel
theorem dX10_sends_76 : decode cX10_sends 76 = .ok (.iload_n 2, 1) := by decide +kernel
theorem dX10_sends_77 : decode cX10_sends 77 = .ok (.iastore, 1) := by decide +kernel
theorem dX10_sends_78 : decode cX10_sends 78 = .ok (.aload_n 0, 1) := by decide +kernel
theorem dX10_sends_79 : decode cX10_sends 79 = .ok (.getfield 93, 3) := by decide +kernel
theorem dX10_sends_82 : decode cX10_sends 82 = .ok (.aload_n 0, 1) := by decide +kernel
theorem dX10_sends_83 : decode cX10_sends 83 = .ok (.getfield 170, 3) := by decide +kernel
theorem dX10_sends_86 : decode cX10_sends 86 = .ok (.iload_n 1, 1) := by decide +kernel
theorem dX10_sends_87 : decode cX10_sends 87 = .ok (.iastore, 1) := by decide +kernel
theorem dX10_sends_88 : decode cX10_sends 88 = .ok (.aload_n 0, 1) := by decide +kernel
theorem dX10_sends_89 : decode cX10_sends 89 = .ok (.getfield 96, 3) := by decide +kernel
theorem dX10_sends_92 : decode cX10_sends 92 = .ok (.aload_n 0, 1) := by decide +kernel
theorem dX10_sends_93 : decode cX10_sends 93 = .ok (.getfield 170, 3) := by decide +kernel
theorem dX10_sends_96 : decode cX10_sends 96 = .ok (.iload_n 3, 1) := by decide +kernel
theorem dX10_sends_97 : decode cX10_sends 97 = .ok (.iastore, 1) := by decide +kernel
theorem dX10_sends_98 : decode cX10_sends 98 = .ok (.aload_n 0, 1) := by decide +kernel
theorem dX10_sends_99 : decode cX10_sends 99 = .ok (.getfield 99, 3) := by decide +kernel
theorem dX10_sends_102 : decode cX10_sends 102 = .ok (.aload_n 0, 1) := by decide +kernel
theorem dX10_sends_103 : decode cX10_sends 103 = .ok (.getfield 170, 3) := by decide +kernel
theorem dX10_sends_106 : decode cX10_sends 106 = .ok (.iload 4, 2) := by decide +kernel
theorem dX10_sends_108 : decode cX10_sends 108 = .ok (.iastore, 1) := by decide +kernel
theorem dX10_sends_109 : decode cX10_sends 109 = .ok (.aload_n 0, 1) := by decide +kernel
theorem dX10_sends_110 : decode cX10_sends 110 = .ok (.getfield 102, 3) := by decide +kernel
theorem dX10_sends_113 : decode cX10_sends 113 = .ok (.aload_n 0, 1) := by decide +kernel
theorem dX10_sends_114 : decode cX10_sends 114 = .ok (.getfield 170, 3) := by decide +kernel
