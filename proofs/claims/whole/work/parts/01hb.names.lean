theorem dX10_owners_42 : decode cX10_owners 42 = .ok (.baload, 1) := by decide +kernel
theorem dX10_owners_43 : decode cX10_owners 43 = .ok (.ifCond .eq 7, 3) := by decide +kernel
theorem dX10_owners_46 : decode cX10_owners 46 = .ok (.iconst 1, 1) := by decide +kernel
theorem dX10_owners_47 : decode cX10_owners 47 = .ok (.goto 4, 3) := by decide +kernel
theorem dX10_owners_50 : decode cX10_owners 50 = .ok (.iconst 0, 1) := by decide +kernel
theorem dX10_owners_51 : decode cX10_owners 51 = .ok (.iadd, 1) := by decide +kernel
theorem dX10_owners_52 : decode cX10_owners 52 = .ok (.istore_n 3, 1) := by decide +kernel
theorem dX10_owners_53 : decode cX10_owners 53 = .ok (.iinc 4 1, 3) := by decide +kernel
theorem dX10_owners_56 : decode cX10_owners 56 = .ok (.goto (-51), 3) := by decide +kernel
theorem dX10_owners_59 : decode cX10_owners 59 = .ok (.iload_n 3, 1) := by decide +kernel
theorem dX10_owners_60 : decode cX10_owners 60 = .ok (.ireturn, 1) := by decide +kernel
set_option maxRecDepth 20000 in
theorem ggX10_alone_X10_isPeer : GoodIn wsX10_alone wsX10_isPeer := goodIn_r _ [8, 9, 10, 11, 7, 12, 18, 19, 20, 21, 22, 23, 24, 25, 26, 27, 28, 29, 30, 31, 32, 33, 34, 35, 36, 37, 38, 39, 40, 41, 42, 43, 44, 45, 46, 47, 48, 49, 50, 51, 52, 53, 54, 55, 56, 57, 58, 59, 60, 61, 62] (by decide +kernel) (by decide +kernel)
set_option maxRecDepth 20000 in
theorem gX10_alone_X10_isPeer : GoodIn wsX10_alone (wsV RX10 147 RX10 yX10_isPeer wsX10_isPeer) := goodIn_app (goodIn_of _ (by decide +kernel)) ggX10_alone_X10_isPeer
set_option maxRecDepth 20000 in
theorem ggX10_alone_X10_owners : GoodIn wsX10_alone wsX10_owners := goodIn_r _ [16, 9, 17, 3, 18, 19, 20, 21, 22, 23, 24, 25, 26, 27, 28, 29, 30, 31, 32, 33, 34, 35, 36, 37, 38, 39, 40, 41, 42, 43, 44, 45, 46, 47, 48, 49, 50, 51, 52, 53, 54, 55, 56, 57, 58, 59, 60, 61, 62] (by decide +kernel) (by decide +kernel)
set_option maxRecDepth 20000 in
theorem gX10_alone_X10_owners : GoodIn wsX10_alone (wsV RX10 280 RX10 yX10_owners wsX10_owners) := goodIn_app (goodIn_of _ (by decide +kernel)) ggX10_alone_X10_owners
theorem dX10_alone_0 : decode cX10_alone 0 = .ok (.aload_n 0, 1) := by decide +kernel
theorem dX10_alone_1 : decode cX10_alone 1 = .ok (.iconst 0, 1) := by decide +kernel
theorem dX10_alone_2 : decode cX10_alone 2 = .ok (.putfield 120, 3) := by decide +kernel
theorem dX10_alone_5 : decode cX10_alone 5 = .ok (.iload_n 1, 1) := by decide +kernel
theorem dX10_alone_6 : decode cX10_alone 6 = .ok (.iconst (-1), 1) := by decide +kernel
theorem dX10_alone_7 : decode cX10_alone 7 = .ok (.if_icmp .eq 13, 3) := by decide +kernel
theorem dX10_alone_10 : decode cX10_alone 10 = .ok (.aload_n 0, 1) := by decide +kernel
theorem dX10_alone_11 : decode cX10_alone 11 = .ok (.iload_n 1, 1) := by decide +kernel
theorem dX10_alone_12 : decode cX10_alone 12 = .ok (.invokevirtual 147, 3) := by decide +kernel
theorem dX10_alone_15 : decode cX10_alone 15 = .ok (.ifCond .ne 5, 3) := by decide +kernel
theorem dX10_alone_18 : decode cX10_alone 18 = .ok (.iconst (-1), 1) := by decide +kernel
theorem dX10_alone_19 : decode cX10_alone 19 = .ok (.ireturn, 1) := by decide +kernel
theorem dX10_alone_20 : decode cX10_alone 20 = .ok (.iconst 0, 1) := by decide +kernel
theorem dX10_alone_21 : decode cX10_alone 21 = .ok (.istore_n 2, 1) := by decide +kernel
theorem dX10_alone_22 : decode cX10_alone 22 = .ok (.iconst 0, 1) := by decide +kernel
theorem dX10_alone_23 : decode cX10_alone 23 = .ok (.istore_n 3, 1) := by decide +kernel
theorem dX10_alone_24 : decode cX10_alone 24 = .ok (.iload_n 3, 1) := by decide +kernel
theorem dX10_alone_25 : decode cX10_alone 25 = .ok (.aload_n 0, 1) := by decide +kernel
theorem dX10_alone_26 : decode cX10_alone 26 = .ok (.getfield 7, 3) := by decide +kernel
theorem dX10_alone_29 : decode cX10_alone 29 = .ok (.if_icmp .ge 45, 3) := by decide +kernel
theorem dX10_alone_32 : decode cX10_alone 32 = .ok (.iload_n 2, 1) := by decide +kernel
theorem dX10_alone_33 : decode cX10_alone 33 = .ok (.iload_n 1, 1) := by decide +kernel
theorem dX10_alone_34 : decode cX10_alone 34 = .ok (.iconst (-1), 1) := by decide +kernel
theorem dX10_alone_35 : decode cX10_alone 35 = .ok (.if_icmp .eq 17, 3) := by decide +kernel
theorem dX10_alone_38 : decode cX10_alone 38 = .ok (.aload_n 0, 1) := by decide +kernel
theorem dX10_alone_39 : decode cX10_alone 39 = .ok (.getfield 48, 3) := by decide +kernel
theorem dX10_alone_42 : decode cX10_alone 42 = .ok (.bipush 24, 2) := by decide +kernel
theorem dX10_alone_44 : decode cX10_alone 44 = .ok (.iload_n 1, 1) := by decide +kernel
theorem dX10_alone_45 : decode cX10_alone 45 = .ok (.imul, 1) := by decide +kernel
theorem dX10_alone_46 : decode cX10_alone 46 = .ok (.iload_n 3, 1) := by decide +kernel
theorem dX10_alone_47 : decode cX10_alone 47 = .ok (.iadd, 1) := by decide +kernel
theorem dX10_alone_48 : decode cX10_alone 48 = .ok (.baload, 1) := by decide +kernel
theorem dX10_alone_49 : decode cX10_alone 49 = .ok (.ifCond .eq 16, 3) := by decide +kernel
theorem dX10_alone_52 : decode cX10_alone 52 = .ok (.aload_n 0, 1) := by decide +kernel
theorem dX10_alone_53 : decode cX10_alone 53 = .ok (.iload_n 3, 1) := by decide +kernel
theorem dX10_alone_54 : decode cX10_alone 54 = .ok (.iload_n 1, 1) := by decide +kernel
theorem dX10_alone_55 : decode cX10_alone 55 = .ok (.invokevirtual 280, 3) := by decide +kernel
theorem dX10_alone_58 : decode cX10_alone 58 = .ok (.ifCond .ne 7, 3) := by decide +kernel
theorem dX10_alone_61 : decode cX10_alone 61 = .ok (.iconst 1, 1) := by decide +kernel
theorem dX10_alone_62 : decode cX10_alone 62 = .ok (.goto 4, 3) := by decide +kernel
theorem dX10_alone_65 : decode cX10_alone 65 = .ok (.iconst 0, 1) := by decide +kernel
theorem dX10_alone_66 : decode cX10_alone 66 = .ok (.iadd, 1) := by decide +kernel
theorem dX10_alone_67 : decode cX10_alone 67 = .ok (.istore_n 2, 1) := by decide +kernel
theorem dX10_alone_68 : decode cX10_alone 68 = .ok (.iinc 3 1, 3) := by decide +kernel
theorem dX10_alone_71 : decode cX10_alone 71 = .ok (.goto (-47), 3) := by decide +kernel
theorem dX10_alone_74 : decode cX10_alone 74 = .ok (.iload_n 2, 1) := by decide +kernel
theorem dX10_alone_75 : decode cX10_alone 75 = .ok (.ireturn, 1) := by decide +kernel
theorem dX10_share_0 : decode cX10_share 0 = .ok (.iload_n 0, 1) := by decide +kernel
theorem dX10_share_1 : decode cX10_share 1 = .ok (.iload_n 1, 1) := by decide +kernel
theorem dX10_share_2 : decode cX10_share 2 = .ok (.iadd, 1) := by decide +kernel
theorem dX10_share_3 : decode cX10_share 3 = .ok (.iconst 1, 1) := by decide +kernel
theorem dX10_share_4 : decode cX10_share 4 = .ok (.isub, 1) := by decide +kernel
theorem dX10_share_5 : decode cX10_share 5 = .ok (.iload_n 1, 1) := by decide +kernel
theorem dX10_share_6 : decode cX10_share 6 = .ok (.idiv, 1) := by decide +kernel
theorem dX10_share_7 : decode cX10_share 7 = .ok (.ireturn, 1) := by decide +kernel
set_option maxRecDepth 20000 in
theorem ggX10_bound__X10_isPeer : GoodIn wsX10_bound_ wsX10_isPeer := goodIn_r _ [12, 6, 13, 14, 11, 15, 46, 47, 48, 49, 50, 51, 52, 53, 54, 55, 56, 57, 58, 59, 60, 61, 62, 63, 64, 65, 66, 67, 68, 69, 70, 71, 72, 73, 74, 75, 76, 77, 78, 79, 80, 81, 82, 83, 84, 85, 86, 87, 88, 89, 90] (by decide +kernel) (by decide +kernel)
set_option maxRecDepth 20000 in
theorem gX10_bound__X10_isPeer : GoodIn wsX10_bound_ (wsV RX10 147 RX10 yX10_isPeer wsX10_isPeer) := goodIn_app (goodIn_of _ (by decide +kernel)) ggX10_bound__X10_isPeer
set_option maxRecDepth 20000 in
theorem ggX10_bound__X10_isDone : GoodIn wsX10_bound_ wsX10_isDone := goodIn_r _ [19, 3, 20, 21, 22, 11, 23, 24, 46, 47, 48, 49, 50, 51, 52, 53, 54, 55, 56, 57, 58, 59, 60, 61, 62, 63, 64, 65, 66, 67, 68, 69, 70, 71, 72, 73, 74, 75, 76, 77, 78, 79, 80, 81, 82, 83, 84, 85, 86, 87, 88, 89, 90] (by decide +kernel) (by decide +kernel)
set_option maxRecDepth 20000 in
theorem gX10_bound__X10_isDone : GoodIn wsX10_bound_ (wsV RX10 199 RX10 yX10_isDone wsX10_isDone) := goodIn_app (goodIn_of _ (by decide +kernel)) ggX10_bound__X10_isDone
set_option maxRecDepth 20000 in
theorem ggX10_bound__X10_share : GoodIn wsX10_bound_ wsX10_share := goodIn_r _ [27] (by decide +kernel) (by decide +kernel)
set_option maxRecDepth 20000 in
theorem gX10_bound__X10_share : GoodIn wsX10_bound_ (va_wsS RX10 283 yX10_share wsX10_share) := goodIn_app (goodIn_of _ (by decide +kernel)) ggX10_bound__X10_share
set_option maxRecDepth 20000 in
theorem ggX10_bound__X10_hasMany : GoodIn wsX10_bound_ wsX10_hasMany := goodIn_r _ [23, 3, 24, 46, 47, 48, 49, 50, 51, 52, 53, 54, 55, 56, 57, 58, 59, 60, 61, 62, 63, 64, 65, 66, 67, 68, 69, 70, 71, 72, 73, 74, 75, 76, 77, 78, 79, 80, 81, 82, 83, 84, 85, 86, 87, 88, 89, 90] (by decide +kernel) (by decide +kernel)
set_option maxRecDepth 20000 in
theorem gX10_bound__X10_hasMany : GoodIn wsX10_bound_ (wsV RX10 160 RX10 yX10_hasMany wsX10_hasMany) := goodIn_app (goodIn_of _ (by decide +kernel)) ggX10_bound__X10_hasMany
set_option maxRecDepth 20000 in
theorem ggX10_bound__X10_holdsMany : GoodIn wsX10_bound_ wsX10_holdsMany := goodIn_r _ [31, 3, 24, 32, 33, 34, 11, 35, 4, 36, 37, 38, 39, 46, 47, 48, 49, 50, 51, 52, 53, 54, 55, 56, 57, 58, 59, 60, 61, 62, 63, 64, 65, 66, 67, 68, 69, 70, 71, 72, 73, 74, 75, 76, 77, 78, 79, 80, 81, 82, 83, 84, 85, 86, 87, 88, 89, 90] (by decide +kernel) (by decide +kernel)
set_option maxRecDepth 20000 in
theorem gX10_bound__X10_holdsMany : GoodIn wsX10_bound_ (wsV RX10 267 RX10 yX10_holdsMany wsX10_holdsMany) := goodIn_app (goodIn_of _ (by decide +kernel)) ggX10_bound__X10_holdsMany
set_option maxRecDepth 20000 in
theorem ggX10_bound__X10_comingTo : GoodIn wsX10_bound_ wsX10_comingTo := goodIn_r _ [43, 44, 45, 46, 47, 48, 49, 50, 51, 52, 53, 54, 55, 56, 57, 58, 59, 60, 61, 62, 63, 64, 65, 66, 67, 68, 69, 70, 71, 72, 73, 74, 75, 76, 77, 78, 79, 80, 81, 82, 83, 84, 85, 86, 87, 88, 89, 90] (by decide +kernel) (by decide +kernel)
set_option maxRecDepth 20000 in
theorem gX10_bound__X10_comingTo : GoodIn wsX10_bound_ (wsV RX10 274 RX10 yX10_comingTo wsX10_comingTo) := goodIn_app (goodIn_of _ (by decide +kernel)) ggX10_bound__X10_comingTo
theorem dX10_bound__0 : decode cX10_bound_ 0 = .ok (.aload_n 0, 1) := by decide +kernel
theorem dX10_bound__1 : decode cX10_bound_ 1 = .ok (.iconst 0, 1) := by decide +kernel
theorem dX10_bound__2 : decode cX10_bound_ 2 = .ok (.putfield 120, 3) := by decide +kernel
theorem dX10_bound__5 : decode cX10_bound_ 5 = .ok (.aload_n 0, 1) := by decide +kernel
theorem dX10_bound__6 : decode cX10_bound_ 6 = .ok (.iload_n 1, 1) := by decide +kernel
theorem dX10_bound__7 : decode cX10_bound_ 7 = .ok (.invokevirtual 147, 3) := by decide +kernel
theorem dX10_bound__10 : decode cX10_bound_ 10 = .ok (.ifCond .eq 20, 3) := by decide +kernel
theorem dX10_bound__13 : decode cX10_bound_ 13 = .ok (.aload_n 0, 1) := by decide +kernel
theorem dX10_bound__14 : decode cX10_bound_ 14 = .ok (.getfield 26, 3) := by decide +kernel
theorem dX10_bound__17 : decode cX10_bound_ 17 = .ok (.iload_n 1, 1) := by decide +kernel
theorem dX10_bound__18 : decode cX10_bound_ 18 = .ok (.baload, 1) := by decide +kernel
theorem dX10_bound__19 : decode cX10_bound_ 19 = .ok (.ifCond .eq 11, 3) := by decide +kernel
theorem dX10_bound__22 : decode cX10_bound_ 22 = .ok (.aload_n 0, 1) := by decide +kernel
theorem dX10_bound__23 : decode cX10_bound_ 23 = .ok (.iload_n 1, 1) := by decide +kernel
theorem dX10_bound__24 : decode cX10_bound_ 24 = .ok (.invokevirtual 199, 3) := by decide +kernel
theorem dX10_bound__27 : decode cX10_bound_ 27 = .ok (.ifCond .ne 5, 3) := by decide +kernel
theorem dX10_bound__30 : decode cX10_bound_ 30 = .ok (.iconst (-1), 1) := by decide +kernel
theorem dX10_bound__31 : decode cX10_bound_ 31 = .ok (.ireturn, 1) := by decide +kernel
theorem dX10_bound__32 : decode cX10_bound_ 32 = .ok (.aload_n 0, 1) := by decide +kernel
theorem dX10_bound__33 : decode cX10_bound_ 33 = .ok (.getfield 7, 3) := by decide +kernel
theorem dX10_bound__36 : decode cX10_bound_ 36 = .ok (.aload_n 0, 1) := by decide +kernel
theorem dX10_bound__37 : decode cX10_bound_ 37 = .ok (.getfield 13, 3) := by decide +kernel
theorem dX10_bound__40 : decode cX10_bound_ 40 = .ok (.imul, 1) := by decide +kernel
theorem dX10_bound__41 : decode cX10_bound_ 41 = .ok (.istore_n 2, 1) := by decide +kernel
theorem dX10_bound__42 : decode cX10_bound_ 42 = .ok (.iload_n 2, 1) := by decide +kernel
theorem dX10_bound__43 : decode cX10_bound_ 43 = .ok (.aload_n 0, 1) := by decide +kernel
theorem dX10_bound__44 : decode cX10_bound_ 44 = .ok (.getfield 20, 3) := by decide +kernel
theorem dX10_bound__47 : decode cX10_bound_ 47 = .ok (.iload_n 1, 1) := by decide +kernel
theorem dX10_bound__48 : decode cX10_bound_ 48 = .ok (.iaload, 1) := by decide +kernel
theorem dX10_bound__49 : decode cX10_bound_ 49 = .ok (.invokestatic 283, 3) := by decide +kernel
theorem dX10_bound__52 : decode cX10_bound_ 52 = .ok (.istore_n 3, 1) := by decide +kernel
theorem dX10_bound__53 : decode cX10_bound_ 53 = .ok (.iconst 0, 1) := by decide +kernel
theorem dX10_bound__54 : decode cX10_bound_ 54 = .ok (.istore 4, 2) := by decide +kernel
theorem dX10_bound__56 : decode cX10_bound_ 56 = .ok (.aload_n 0, 1) := by decide +kernel
theorem dX10_bound__57 : decode cX10_bound_ 57 = .ok (.getfield 20, 3) := by decide +kernel
theorem dX10_bound__60 : decode cX10_bound_ 60 = .ok (.iload_n 1, 1) := by decide +kernel
theorem dX10_bound__61 : decode cX10_bound_ 61 = .ok (.iaload, 1) := by decide +kernel
theorem dX10_bound__62 : decode cX10_bound_ 62 = .ok (.istore 5, 2) := by decide +kernel
theorem dX10_bound__64 : decode cX10_bound_ 64 = .ok (.iconst 0, 1) := by decide +kernel
theorem dX10_bound__65 : decode cX10_bound_ 65 = .ok (.istore 6, 2) := by decide +kernel
theorem dX10_bound__67 : decode cX10_bound_ 67 = .ok (.iload 6, 2) := by decide +kernel
theorem dX10_bound__69 : decode cX10_bound_ 69 = .ok (.aload_n 0, 1) := by decide +kernel
theorem dX10_bound__70 : decode cX10_bound_ 70 = .ok (.getfield 136, 3) := by decide +kernel
theorem dX10_bound__73 : decode cX10_bound_ 73 = .ok (.if_icmp .ge 99, 3) := by decide +kernel
theorem dX10_bound__76 : decode cX10_bound_ 76 = .ok (.iload 6, 2) := by decide +kernel
theorem dX10_bound__78 : decode cX10_bound_ 78 = .ok (.iload_n 1, 1) := by decide +kernel
theorem dX10_bound__79 : decode cX10_bound_ 79 = .ok (.if_icmp .eq 87, 3) := by decide +kernel
theorem dX10_bound__82 : decode cX10_bound_ 82 = .ok (.aload_n 0, 1) := by decide +kernel
theorem dX10_bound__83 : decode cX10_bound_ 83 = .ok (.getfield 26, 3) := by decide +kernel
theorem dX10_bound__86 : decode cX10_bound_ 86 = .ok (.iload 6, 2) := by decide +kernel
theorem dX10_bound__88 : decode cX10_bound_ 88 = .ok (.baload, 1) := by decide +kernel
theorem dX10_bound__89 : decode cX10_bound_ 89 = .ok (.ifCond .ne 6, 3) := by decide +kernel
theorem dX10_bound__92 : decode cX10_bound_ 92 = .ok (.goto 74, 3) := by decide +kernel
theorem dX10_bound__95 : decode cX10_bound_ 95 = .ok (.aload_n 0, 1) := by decide +kernel
theorem dX10_bound__96 : decode cX10_bound_ 96 = .ok (.iload 6, 2) := by decide +kernel
theorem dX10_bound__98 : decode cX10_bound_ 98 = .ok (.invokevirtual 160, 3) := by decide +kernel
theorem dX10_bound__101 : decode cX10_bound_ 101 = .ok (.ifCond .gt 21, 3) := by decide +kernel
theorem dX10_bound__104 : decode cX10_bound_ 104 = .ok (.aload_n 0, 1) := by decide +kernel
theorem dX10_bound__105 : decode cX10_bound_ 105 = .ok (.iload 6, 2) := by decide +kernel
theorem dX10_bound__107 : decode cX10_bound_ 107 = .ok (.invokevirtual 267, 3) := by decide +kernel
theorem dX10_bound__110 : decode cX10_bound_ 110 = .ok (.ifCond .gt 12, 3) := by decide +kernel
theorem dX10_bound__113 : decode cX10_bound_ 113 = .ok (.aload_n 0, 1) := by decide +kernel
theorem dX10_bound__114 : decode cX10_bound_ 114 = .ok (.iload 6, 2) := by decide +kernel
theorem dX10_bound__116 : decode cX10_bound_ 116 = .ok (.invokevirtual 274, 3) := by decide +kernel
theorem dX10_bound__119 : decode cX10_bound_ 119 = .ok (.ifCond .le 5, 3) := by decide +kernel
theorem dX10_bound__122 : decode cX10_bound_ 122 = .ok (.iconst (-1), 1) := by decide +kernel
theorem dX10_bound__123 : decode cX10_bound_ 123 = .ok (.ireturn, 1) := by decide +kernel
theorem dX10_bound__124 : decode cX10_bound_ 124 = .ok (.iinc 4 1, 3) := by decide +kernel
theorem dX10_bound__127 : decode cX10_bound_ 127 = .ok (.iload 5, 2) := by decide +kernel
theorem dX10_bound__129 : decode cX10_bound_ 129 = .ok (.aload_n 0, 1) := by decide +kernel
theorem dX10_bound__130 : decode cX10_bound_ 130 = .ok (.getfield 20, 3) := by decide +kernel
theorem dX10_bound__133 : decode cX10_bound_ 133 = .ok (.iload 6, 2) := by decide +kernel
theorem dX10_bound__135 : decode cX10_bound_ 135 = .ok (.iaload, 1) := by decide +kernel
theorem dX10_bound__136 : decode cX10_bound_ 136 = .ok (.iadd, 1) := by decide +kernel
theorem dX10_bound__137 : decode cX10_bound_ 137 = .ok (.istore 5, 2) := by decide +kernel
theorem dX10_bound__139 : decode cX10_bound_ 139 = .ok (.iload_n 2, 1) := by decide +kernel
theorem dX10_bound__140 : decode cX10_bound_ 140 = .ok (.aload_n 0, 1) := by decide +kernel
theorem dX10_bound__141 : decode cX10_bound_ 141 = .ok (.getfield 23, 3) := by decide +kernel
theorem dX10_bound__144 : decode cX10_bound_ 144 = .ok (.iload 6, 2) := by decide +kernel
theorem dX10_bound__146 : decode cX10_bound_ 146 = .ok (.iaload, 1) := by decide +kernel
theorem dX10_bound__147 : decode cX10_bound_ 147 = .ok (.invokestatic 283, 3) := by decide +kernel
theorem dX10_bound__150 : decode cX10_bound_ 150 = .ok (.iload_n 3, 1) := by decide +kernel
theorem dX10_bound__151 : decode cX10_bound_ 151 = .ok (.if_icmp .le 15, 3) := by decide +kernel
theorem dX10_bound__154 : decode cX10_bound_ 154 = .ok (.iload_n 2, 1) := by decide +kernel
theorem dX10_bound__155 : decode cX10_bound_ 155 = .ok (.aload_n 0, 1) := by decide +kernel
theorem dX10_bound__156 : decode cX10_bound_ 156 = .ok (.getfield 23, 3) := by decide +kernel
theorem dX10_bound__159 : decode cX10_bound_ 159 = .ok (.iload 6, 2) := by decide +kernel
theorem dX10_bound__161 : decode cX10_bound_ 161 = .ok (.iaload, 1) := by decide +kernel
theorem dX10_bound__162 : decode cX10_bound_ 162 = .ok (.invokestatic 283, 3) := by decide +kernel
theorem dX10_bound__165 : decode cX10_bound_ 165 = .ok (.istore_n 3, 1) := by decide +kernel
theorem dX10_bound__166 : decode cX10_bound_ 166 = .ok (.iinc 6 1, 3) := by decide +kernel
theorem dX10_bound__169 : decode cX10_bound_ 169 = .ok (.goto (-102), 3) := by decide +kernel
theorem dX10_bound__172 : decode cX10_bound_ 172 = .ok (.iload 4, 2) := by decide +kernel
theorem dX10_bound__174 : decode cX10_bound_ 174 = .ok (.ifCond .ne 5, 3) := by decide +kernel
theorem dX10_bound__177 : decode cX10_bound_ 177 = .ok (.iconst (-1), 1) := by decide +kernel
theorem dX10_bound__178 : decode cX10_bound_ 178 = .ok (.ireturn, 1) := by decide +kernel
theorem dX10_bound__179 : decode cX10_bound_ 179 = .ok (.iload_n 2, 1) := by decide +kernel
theorem dX10_bound__180 : decode cX10_bound_ 180 = .ok (.iload 4, 2) := by decide +kernel
theorem dX10_bound__182 : decode cX10_bound_ 182 = .ok (.imul, 1) := by decide +kernel
theorem dX10_bound__183 : decode cX10_bound_ 183 = .ok (.iload 5, 2) := by decide +kernel
theorem dX10_bound__185 : decode cX10_bound_ 185 = .ok (.invokestatic 283, 3) := by decide +kernel
theorem dX10_bound__188 : decode cX10_bound_ 188 = .ok (.iload_n 3, 1) := by decide +kernel
theorem dX10_bound__189 : decode cX10_bound_ 189 = .ok (.if_icmp .le 15, 3) := by decide +kernel
theorem dX10_bound__192 : decode cX10_bound_ 192 = .ok (.iload_n 2, 1) := by decide +kernel
