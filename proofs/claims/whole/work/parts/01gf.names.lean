set_option maxRecDepth 20000 in
theorem gX10_held_X10_heldMany : GoodIn wsX10_held (wsV RX10 193 RX10 yX10_heldMany wsX10_heldMany) := goodIn_app (goodIn_of _ (by decide +kernel)) ggX10_held_X10_heldMany
theorem dX10_held_0 : decode cX10_held 0 = .ok (.aload_n 0, 1) := by decide +kernel
theorem dX10_held_1 : decode cX10_held 1 = .ok (.iconst 0, 1) := by decide +kernel
theorem dX10_held_2 : decode cX10_held 2 = .ok (.putfield 120, 3) := by decide +kernel
theorem dX10_held_5 : decode cX10_held 5 = .ok (.aload_n 0, 1) := by decide +kernel
theorem dX10_held_6 : decode cX10_held 6 = .ok (.iload_n 1, 1) := by decide +kernel
theorem dX10_held_7 : decode cX10_held 7 = .ok (.invokevirtual 147, 3) := by decide +kernel
theorem dX10_held_10 : decode cX10_held 10 = .ok (.ifCond .eq 21, 3) := by decide +kernel
theorem dX10_held_13 : decode cX10_held 13 = .ok (.aload_n 0, 1) := by decide +kernel
theorem dX10_held_14 : decode cX10_held 14 = .ok (.iload_n 2, 1) := by decide +kernel
theorem dX10_held_15 : decode cX10_held 15 = .ok (.iconst 0, 1) := by decide +kernel
theorem dX10_held_16 : decode cX10_held 16 = .ok (.invokevirtual 139, 3) := by decide +kernel
theorem dX10_held_19 : decode cX10_held 19 = .ok (.ifCond .eq 12, 3) := by decide +kernel
theorem dX10_held_22 : decode cX10_held 22 = .ok (.aload_n 0, 1) := by decide +kernel
theorem dX10_held_23 : decode cX10_held 23 = .ok (.iload_n 1, 1) := by decide +kernel
theorem dX10_held_24 : decode cX10_held 24 = .ok (.iload_n 2, 1) := by decide +kernel
theorem dX10_held_25 : decode cX10_held 25 = .ok (.invokevirtual 193, 3) := by decide +kernel
theorem dX10_held_28 : decode cX10_held 28 = .ok (.goto 4, 3) := by decide +kernel
theorem dX10_held_31 : decode cX10_held 31 = .ok (.iconst (-1), 1) := by decide +kernel
theorem dX10_held_32 : decode cX10_held 32 = .ok (.ireturn, 1) := by decide +kernel
set_option maxRecDepth 20000 in
theorem ggX10_from_X10_isPeer : GoodIn wsX10_from wsX10_isPeer := goodIn_r _ [8, 9, 10, 11, 7, 12, 22, 23, 24, 25, 26, 27, 28, 29, 30, 31, 32, 33, 34, 35, 36, 37, 38, 39, 40, 41, 42, 43, 44, 45, 46, 47, 48, 49, 50, 51, 52, 53, 54, 55, 56, 57, 58, 59, 60, 61, 62, 63, 64, 65, 66] (by decide +kernel) (by decide +kernel)
set_option maxRecDepth 20000 in
theorem gX10_from_X10_isPeer : GoodIn wsX10_from (wsV RX10 147 RX10 yX10_isPeer wsX10_isPeer) := goodIn_app (goodIn_of _ (by decide +kernel)) ggX10_from_X10_isPeer
set_option maxRecDepth 20000 in
theorem ggX10_from_X10_isBlock : GoodIn wsX10_from wsX10_isBlock := goodIn_r _ [16, 17, 18, 10, 11, 7, 12, 22, 23, 24, 25, 26, 27, 28, 29, 30, 31, 32, 33, 34, 35, 36, 37, 38, 39, 40, 41, 42, 43, 44, 45, 46, 47, 48, 49, 50, 51, 52, 53, 54, 55, 56, 57, 58, 59, 60, 61, 62, 63, 64, 65, 66] (by decide +kernel) (by decide +kernel)
set_option maxRecDepth 20000 in
theorem gX10_from_X10_isBlock : GoodIn wsX10_from (wsV RX10 139 RX10 yX10_isBlock wsX10_isBlock) := goodIn_app (goodIn_of _ (by decide +kernel)) ggX10_from_X10_isBlock
set_option maxRecDepth 20000 in
theorem ggX10_from_X10_cell : GoodIn wsX10_from wsX10_cell := goodIn_r _ [21] (by decide +kernel) (by decide +kernel)
set_option maxRecDepth 20000 in
theorem gX10_from_X10_cell : GoodIn wsX10_from (va_wsS RX10 163 yX10_cell wsX10_cell) := goodIn_app (goodIn_of _ (by decide +kernel)) ggX10_from_X10_cell
theorem dX10_from_0 : decode cX10_from 0 = .ok (.aload_n 0, 1) := by decide +kernel
theorem dX10_from_1 : decode cX10_from 1 = .ok (.iconst 0, 1) := by decide +kernel
theorem dX10_from_2 : decode cX10_from 2 = .ok (.putfield 120, 3) := by decide +kernel
theorem dX10_from_5 : decode cX10_from 5 = .ok (.aload_n 0, 1) := by decide +kernel
theorem dX10_from_6 : decode cX10_from 6 = .ok (.iload_n 1, 1) := by decide +kernel
theorem dX10_from_7 : decode cX10_from 7 = .ok (.invokevirtual 147, 3) := by decide +kernel
theorem dX10_from_10 : decode cX10_from 10 = .ok (.ifCond .eq 40, 3) := by decide +kernel
theorem dX10_from_13 : decode cX10_from 13 = .ok (.aload_n 0, 1) := by decide +kernel
theorem dX10_from_14 : decode cX10_from 14 = .ok (.iload_n 2, 1) := by decide +kernel
theorem dX10_from_15 : decode cX10_from 15 = .ok (.iload_n 3, 1) := by decide +kernel
theorem dX10_from_16 : decode cX10_from 16 = .ok (.invokevirtual 139, 3) := by decide +kernel
theorem dX10_from_19 : decode cX10_from 19 = .ok (.ifCond .eq 31, 3) := by decide +kernel
theorem dX10_from_22 : decode cX10_from 22 = .ok (.aload_n 0, 1) := by decide +kernel
theorem dX10_from_23 : decode cX10_from 23 = .ok (.getfield 54, 3) := by decide +kernel
theorem dX10_from_26 : decode cX10_from 26 = .ok (.iload_n 1, 1) := by decide +kernel
theorem dX10_from_27 : decode cX10_from 27 = .ok (.iload_n 2, 1) := by decide +kernel
theorem dX10_from_28 : decode cX10_from 28 = .ok (.iload_n 3, 1) := by decide +kernel
theorem dX10_from_29 : decode cX10_from 29 = .ok (.invokestatic 163, 3) := by decide +kernel
theorem dX10_from_32 : decode cX10_from 32 = .ok (.baload, 1) := by decide +kernel
theorem dX10_from_33 : decode cX10_from 33 = .ok (.ifCond .eq 17, 3) := by decide +kernel
theorem dX10_from_36 : decode cX10_from 36 = .ok (.aload_n 0, 1) := by decide +kernel
theorem dX10_from_37 : decode cX10_from 37 = .ok (.getfield 60, 3) := by decide +kernel
theorem dX10_from_40 : decode cX10_from 40 = .ok (.iload_n 1, 1) := by decide +kernel
theorem dX10_from_41 : decode cX10_from 41 = .ok (.iload_n 2, 1) := by decide +kernel
theorem dX10_from_42 : decode cX10_from 42 = .ok (.iload_n 3, 1) := by decide +kernel
theorem dX10_from_43 : decode cX10_from 43 = .ok (.invokestatic 163, 3) := by decide +kernel
theorem dX10_from_46 : decode cX10_from 46 = .ok (.iaload, 1) := by decide +kernel
theorem dX10_from_47 : decode cX10_from 47 = .ok (.goto 4, 3) := by decide +kernel
theorem dX10_from_50 : decode cX10_from 50 = .ok (.iconst (-1), 1) := by decide +kernel
theorem dX10_from_51 : decode cX10_from 51 = .ok (.ireturn, 1) := by decide +kernel
set_option maxRecDepth 20000 in
theorem ggX10_got_X10_isPeer : GoodIn wsX10_got wsX10_isPeer := goodIn_r _ [8, 9, 10, 11, 7, 12, 22, 23, 24, 25, 26, 27, 28, 29, 30, 31, 32, 33, 34, 35, 36, 37, 38, 39, 40, 41, 42, 43, 44, 45, 46, 47, 48, 49, 50, 51, 52, 53, 54, 55, 56, 57, 58, 59, 60, 61, 62, 63, 64, 65, 66] (by decide +kernel) (by decide +kernel)
set_option maxRecDepth 20000 in
theorem gX10_got_X10_isPeer : GoodIn wsX10_got (wsV RX10 147 RX10 yX10_isPeer wsX10_isPeer) := goodIn_app (goodIn_of _ (by decide +kernel)) ggX10_got_X10_isPeer
set_option maxRecDepth 20000 in
theorem ggX10_got_X10_isBlock : GoodIn wsX10_got wsX10_isBlock := goodIn_r _ [16, 17, 18, 10, 11, 7, 12, 22, 23, 24, 25, 26, 27, 28, 29, 30, 31, 32, 33, 34, 35, 36, 37, 38, 39, 40, 41, 42, 43, 44, 45, 46, 47, 48, 49, 50, 51, 52, 53, 54, 55, 56, 57, 58, 59, 60, 61, 62, 63, 64, 65, 66] (by decide +kernel) (by decide +kernel)
set_option maxRecDepth 20000 in
theorem gX10_got_X10_isBlock : GoodIn wsX10_got (wsV RX10 139 RX10 yX10_isBlock wsX10_isBlock) := goodIn_app (goodIn_of _ (by decide +kernel)) ggX10_got_X10_isBlock
set_option maxRecDepth 20000 in
theorem ggX10_got_X10_cell : GoodIn wsX10_got wsX10_cell := goodIn_r _ [21] (by decide +kernel) (by decide +kernel)
set_option maxRecDepth 20000 in
theorem gX10_got_X10_cell : GoodIn wsX10_got (va_wsS RX10 163 yX10_cell wsX10_cell) := goodIn_app (goodIn_of _ (by decide +kernel)) ggX10_got_X10_cell
theorem dX10_got_0 : decode cX10_got 0 = .ok (.aload_n 0, 1) := by decide +kernel
theorem dX10_got_1 : decode cX10_got 1 = .ok (.iconst 0, 1) := by decide +kernel
theorem dX10_got_2 : decode cX10_got 2 = .ok (.putfield 120, 3) := by decide +kernel
theorem dX10_got_5 : decode cX10_got 5 = .ok (.aload_n 0, 1) := by decide +kernel
theorem dX10_got_6 : decode cX10_got 6 = .ok (.iload_n 1, 1) := by decide +kernel
theorem dX10_got_7 : decode cX10_got 7 = .ok (.invokevirtual 147, 3) := by decide +kernel
theorem dX10_got_10 : decode cX10_got 10 = .ok (.ifCond .eq 40, 3) := by decide +kernel
theorem dX10_got_13 : decode cX10_got 13 = .ok (.aload_n 0, 1) := by decide +kernel
theorem dX10_got_14 : decode cX10_got 14 = .ok (.iload_n 2, 1) := by decide +kernel
theorem dX10_got_15 : decode cX10_got 15 = .ok (.iload_n 3, 1) := by decide +kernel
theorem dX10_got_16 : decode cX10_got 16 = .ok (.invokevirtual 139, 3) := by decide +kernel
theorem dX10_got_19 : decode cX10_got 19 = .ok (.ifCond .eq 31, 3) := by decide +kernel
theorem dX10_got_22 : decode cX10_got 22 = .ok (.aload_n 0, 1) := by decide +kernel
theorem dX10_got_23 : decode cX10_got 23 = .ok (.getfield 54, 3) := by decide +kernel
theorem dX10_got_26 : decode cX10_got 26 = .ok (.iload_n 1, 1) := by decide +kernel
theorem dX10_got_27 : decode cX10_got 27 = .ok (.iload_n 2, 1) := by decide +kernel
theorem dX10_got_28 : decode cX10_got 28 = .ok (.iload_n 3, 1) := by decide +kernel
theorem dX10_got_29 : decode cX10_got 29 = .ok (.invokestatic 163, 3) := by decide +kernel
theorem dX10_got_32 : decode cX10_got 32 = .ok (.baload, 1) := by decide +kernel
theorem dX10_got_33 : decode cX10_got 33 = .ok (.ifCond .eq 17, 3) := by decide +kernel

