/-! the law's calls of the reference: their words -/
set_option maxRecDepth 20000 in
theorem l_X10_init_0 : GoodIn lw_tbl ([.code yX10_init cX10_init 1 none] : List Cond) := good_l _ [(4, 27)] rfl (by decide +kernel)
set_option maxRecDepth 20000 in
theorem l_wsX10_init_r1 : GoodIn lw_tbl wsX10_init_r1 := good_l _ [(4, 28), (1, 20), (1, 21), (4, 30), (4, 31), (1, 92), (4, 39), (4, 40), (4, 41), (4, 165), (4, 42), (4, 43), (4, 44), (4, 45), (4, 46), (4, 47), (4, 48), (4, 49), (4, 50), (4, 51), (4, 52), (4, 53), (4, 54), (4, 55)] rfl (by decide +kernel)
set_option maxRecDepth 20000 in
theorem l_wsX10_init_r2 : GoodIn lw_tbl wsX10_init_r2 := good_l _ [(4, 56), (4, 57), (4, 58), (4, 59), (4, 60), (4, 61), (4, 62), (4, 64), (4, 65), (4, 66), (4, 67), (4, 68), (4, 69), (4, 70), (4, 71), (4, 72), (4, 73)] rfl (by decide +kernel)
set_option maxRecDepth 20000 in
theorem gw_X10_init : GoodIn lw_tbl wsX10_init := goodIn_app l_X10_init_0 (goodIn_app (goodIn_app l_wsX10_init_r1 l_wsX10_init_r2) lx_10)
set_option maxRecDepth 20000 in
theorem l_X10_file_0 : GoodIn lw_tbl ([.code yX10_file cX10_file 4 (some .boolean)] : List Cond) := good_l _ [(4, 169)] rfl (by decide +kernel)
set_option maxRecDepth 20000 in
theorem l_X10_file_1 : GoodIn lw_tbl ([.fieldLink RX10 120 "PieceSwarmModel" "thrown" "I", .fieldLink RX10 136 "PieceSwarmModel" "peers" "I", .fieldLink RX10 7 "PieceSwarmModel" "pieces" "I", .fieldLink RX10 13 "PieceSwarmModel" "blocks" "I", .fieldLink RX10 123 "PieceSwarmModel" "seed" "I", .methodLink RX10 132 yX10_in, .static yX10_in, .initialized RX10, .code yX10_in cX10_in 3 (some .boolean)] : List Cond) := good_l _ [(4, 29), (4, 33), (4, 30), (4, 31), (4, 32), (4, 170), (4, 171), (1, 11), (4, 172)] rfl (by decide +kernel)
set_option maxRecDepth 20000 in
theorem gw_X10_file : GoodIn lw_tbl wsX10_file := goodIn_app l_X10_file_0 (goodIn_app l_X10_file_1 lx_10)
set_option maxRecDepth 20000 in
theorem lv_law_X10_file : GoodIn lw_tbl ([.methodLink RL 17 yX10_file, .instanceMethod yX10_file, .selects RX10 yX10_file yX10_file, .initialized RX10] : List Cond) := good_l _ [(4, 166), (4, 167), (4, 168), (1, 11)] rfl (by decide +kernel)
theorem gL_law_X10_file : GoodIn lw_tbl (wsV RL 17 RX10 yX10_file wsX10_file) := goodIn_app lv_law_X10_file gw_X10_file
set_option maxRecDepth 20000 in
theorem l_X10_value_0 : GoodIn lw_tbl ([.code yX10_value cX10_value 3 (some .int)] : List Cond) := good_l _ [(4, 176)] rfl (by decide +kernel)
set_option maxRecDepth 20000 in
theorem l_X10_value_1 : GoodIn lw_tbl ([.fieldLink RX10 120 "PieceSwarmModel" "thrown" "I", .methodLink RX10 139 yX10_isBlock, .instanceMethod yX10_isBlock, .selects RX10 yX10_isBlock yX10_isBlock, .initialized RX10, .code yX10_isBlock cX10_isBlock 3 (some .boolean), .fieldLink RX10 7 "PieceSwarmModel" "pieces" "I", .fieldLink RX10 13 "PieceSwarmModel" "blocks" "I", .methodLink RX10 132 yX10_in, .static yX10_in, .code yX10_in cX10_in 3 (some .boolean), .methodLink RX10 128 yX10_valueOf, .instanceMethod yX10_valueOf, .selects RX10 yX10_valueOf yX10_valueOf, .code yX10_valueOf cX10_valueOf 4 (some .int), .fieldLink RX10 123 "PieceSwarmModel" "seed" "I", .constant RX10 126 (1103515245)] : List Cond) := good_l _ [(4, 29), (4, 177), (4, 179), (0, 17), (1, 11), (4, 180), (4, 30), (4, 31), (4, 170), (4, 171), (4, 172), (4, 181), (4, 183), (0, 18), (4, 184), (4, 32), (4, 185)] rfl (by decide +kernel)
set_option maxRecDepth 20000 in
theorem gw_X10_value : GoodIn lw_tbl wsX10_value := goodIn_app l_X10_value_0 (goodIn_app l_X10_value_1 lx_10)
set_option maxRecDepth 20000 in
theorem lv_law_X10_value : GoodIn lw_tbl ([.methodLink RL 22 yX10_value, .instanceMethod yX10_value, .selects RX10 yX10_value yX10_value, .initialized RX10] : List Cond) := good_l _ [(4, 173), (4, 174), (4, 175), (1, 11)] rfl (by decide +kernel)
theorem gL_law_X10_value : GoodIn lw_tbl (wsV RL 22 RX10 yX10_value wsX10_value) := goodIn_app lv_law_X10_value gw_X10_value
set_option maxRecDepth 20000 in
theorem l_X10_sum_0 : GoodIn lw_tbl ([.code yX10_sum cX10_sum 2 (some .int)] : List Cond) := good_l _ [(4, 189)] rfl (by decide +kernel)
set_option maxRecDepth 20000 in
theorem l_X10_sum_1 : GoodIn lw_tbl ([.fieldLink RX10 120 "PieceSwarmModel" "thrown" "I", .methodLink RX10 139 yX10_isBlock, .instanceMethod yX10_isBlock, .selects RX10 yX10_isBlock yX10_isBlock, .initialized RX10, .code yX10_isBlock cX10_isBlock 3 (some .boolean), .fieldLink RX10 7 "PieceSwarmModel" "pieces" "I", .fieldLink RX10 13 "PieceSwarmModel" "blocks" "I", .methodLink RX10 132 yX10_in, .static yX10_in, .code yX10_in cX10_in 3 (some .boolean), .methodLink RX10 143 yX10_sumOf, .instanceMethod yX10_sumOf, .selects RX10 yX10_sumOf yX10_sumOf, .code yX10_sumOf cX10_sumOf 4 (some .int), .constant RX10 127 (69069), .methodLink RX10 128 yX10_valueOf, .instanceMethod yX10_valueOf, .selects RX10 yX10_valueOf yX10_valueOf, .code yX10_valueOf cX10_valueOf 4 (some .int), .fieldLink RX10 123 "PieceSwarmModel" "seed" "I", .constant RX10 126 (1103515245)] : List Cond) := good_l _ [(4, 29), (4, 177), (4, 179), (0, 17), (1, 11), (4, 180), (4, 30), (4, 31), (4, 170), (4, 171), (4, 172), (4, 190), (4, 192), (0, 19), (4, 193), (4, 194), (4, 181), (4, 183), (0, 18), (4, 184), (4, 32), (4, 185)] rfl (by decide +kernel)
set_option maxRecDepth 20000 in
theorem gw_X10_sum : GoodIn lw_tbl wsX10_sum := goodIn_app l_X10_sum_0 (goodIn_app l_X10_sum_1 lx_10)
set_option maxRecDepth 20000 in
theorem lv_law_X10_sum : GoodIn lw_tbl ([.methodLink RL 27 yX10_sum, .instanceMethod yX10_sum, .selects RX10 yX10_sum yX10_sum, .initialized RX10] : List Cond) := good_l _ [(4, 186), (4, 187), (4, 188), (1, 11)] rfl (by decide +kernel)
theorem gL_law_X10_sum : GoodIn lw_tbl (wsV RL 27 RX10 yX10_sum wsX10_sum) := goodIn_app lv_law_X10_sum gw_X10_sum
set_option maxRecDepth 20000 in
theorem l_X10_peer_0 : GoodIn lw_tbl ([.code yX10_peer cX10_peer 7 (some .int)] : List Cond) := good_l _ [(4, 198)] rfl (by decide +kernel)
set_option maxRecDepth 20000 in
theorem l_wsX10_peer_r1 : GoodIn lw_tbl wsX10_peer_r1 := good_l _ [(4, 29), (4, 33), (4, 39), (4, 40), (4, 41), (4, 42), (4, 43), (4, 48), (4, 61), (4, 62), (4, 30), (4, 49), (4, 31), (4, 51), (4, 52), (4, 53), (4, 170), (4, 171), (1, 11), (4, 172), (4, 199), (4, 200), (4, 201), (4, 181)] rfl (by decide +kernel)
set_option maxRecDepth 20000 in
theorem l_wsX10_peer_r2 : GoodIn lw_tbl wsX10_peer_r2 := good_l _ [(4, 183), (0, 18), (4, 184), (4, 32), (4, 185)] rfl (by decide +kernel)
set_option maxRecDepth 20000 in
theorem gw_X10_peer : GoodIn lw_tbl wsX10_peer := goodIn_app l_X10_peer_0 (goodIn_app (goodIn_app l_wsX10_peer_r1 l_wsX10_peer_r2) lx_10)
set_option maxRecDepth 20000 in
theorem lv_law_X10_peer : GoodIn lw_tbl ([.methodLink RL 32 yX10_peer, .instanceMethod yX10_peer, .selects RX10 yX10_peer yX10_peer, .initialized RX10] : List Cond) := good_l _ [(4, 195), (4, 196), (4, 197), (1, 11)] rfl (by decide +kernel)
theorem gL_law_X10_peer : GoodIn lw_tbl (wsV RL 32 RX10 yX10_peer wsX10_peer) := goodIn_app lv_law_X10_peer gw_X10_peer
set_option maxRecDepth 20000 in
theorem l_X10_often_0 : GoodIn lw_tbl ([.code yX10_often cX10_often 3 (some .boolean)] : List Cond) := good_l _ [(4, 205)] rfl (by decide +kernel)
set_option maxRecDepth 20000 in
theorem l_X10_often_1 : GoodIn lw_tbl ([.fieldLink RX10 120 "PieceSwarmModel" "thrown" "I", .fieldLink RX10 16 "PieceSwarmModel" "kind" "[I", .fieldLink RX10 30 "PieceSwarmModel" "often" "[I", .methodLink RX10 147 yX10_isPeer, .instanceMethod yX10_isPeer, .selects RX10 yX10_isPeer yX10_isPeer, .initialized RX10, .code yX10_isPeer cX10_isPeer 2 (some .boolean), .fieldLink RX10 136 "PieceSwarmModel" "peers" "I", .methodLink RX10 132 yX10_in, .static yX10_in, .code yX10_in cX10_in 3 (some .boolean)] : List Cond) := good_l _ [(4, 29), (4, 39), (4, 43), (4, 206), (4, 208), (0, 20), (1, 11), (4, 209), (4, 33), (4, 170), (4, 171), (4, 172)] rfl (by decide +kernel)
set_option maxRecDepth 20000 in
theorem gw_X10_often : GoodIn lw_tbl wsX10_often := goodIn_app l_X10_often_0 (goodIn_app l_X10_often_1 lx_10)
set_option maxRecDepth 20000 in
theorem lv_law_X10_often : GoodIn lw_tbl ([.methodLink RL 37 yX10_often, .instanceMethod yX10_often, .selects RX10 yX10_often yX10_often, .initialized RX10] : List Cond) := good_l _ [(4, 202), (4, 203), (4, 204), (1, 11)] rfl (by decide +kernel)
theorem gL_law_X10_often : GoodIn lw_tbl (wsV RL 37 RX10 yX10_often wsX10_often) := goodIn_app lv_law_X10_often gw_X10_often
set_option maxRecDepth 20000 in
theorem l_X10_meet_0 : GoodIn lw_tbl ([.code yX10_meet cX10_meet 3 (some .boolean)] : List Cond) := good_l _ [(4, 213)] rfl (by decide +kernel)
set_option maxRecDepth 20000 in
theorem l_X10_meet_1 : GoodIn lw_tbl ([.fieldLink RX10 120 "PieceSwarmModel" "thrown" "I", .fieldLink RX10 63 "PieceSwarmModel" "met" "[Z", .methodLink RX10 167 yX10_isTwo, .instanceMethod yX10_isTwo, .selects RX10 yX10_isTwo yX10_isTwo, .initialized RX10, .code yX10_isTwo cX10_isTwo 3 (some .boolean), .methodLink RX10 147 yX10_isPeer, .instanceMethod yX10_isPeer, .selects RX10 yX10_isPeer yX10_isPeer, .code yX10_isPeer cX10_isPeer 2 (some .boolean), .fieldLink RX10 136 "PieceSwarmModel" "peers" "I", .methodLink RX10 132 yX10_in, .static yX10_in, .code yX10_in cX10_in 3 (some .boolean), .methodLink RX10 151 yX10_two, .static yX10_two, .code yX10_two cX10_two 2 (some .int)] : List Cond) := good_l _ [(4, 29), (4, 54), (4, 214), (4, 216), (0, 21), (1, 11), (4, 217), (4, 206), (4, 208), (0, 20), (4, 209), (4, 33), (4, 170), (4, 171), (4, 172), (4, 218), (4, 219), (4, 220)] rfl (by decide +kernel)
set_option maxRecDepth 20000 in
theorem gw_X10_meet : GoodIn lw_tbl wsX10_meet := goodIn_app l_X10_meet_0 (goodIn_app l_X10_meet_1 lx_10)
set_option maxRecDepth 20000 in
theorem lv_law_X10_meet : GoodIn lw_tbl ([.methodLink RL 41 yX10_meet, .instanceMethod yX10_meet, .selects RX10 yX10_meet yX10_meet, .initialized RX10] : List Cond) := good_l _ [(4, 210), (4, 211), (4, 212), (1, 11)] rfl (by decide +kernel)
theorem gL_law_X10_meet : GoodIn lw_tbl (wsV RL 41 RX10 yX10_meet wsX10_meet) := goodIn_app lv_law_X10_meet gw_X10_meet
set_option maxRecDepth 20000 in
theorem l_X10_leave_0 : GoodIn lw_tbl ([.code yX10_leave cX10_leave 4 (some .boolean)] : List Cond) := good_l _ [(4, 224)] rfl (by decide +kernel)
set_option maxRecDepth 20000 in
theorem l_wsX10_leave_r1 : GoodIn lw_tbl wsX10_leave_r1 := good_l _ [(4, 29), (4, 42), (4, 63), (4, 64), (4, 65), (4, 36), (4, 33), (4, 55), (4, 206), (4, 208), (0, 20), (1, 11), (4, 209), (4, 170), (4, 171), (4, 172), (4, 225), (4, 227), (0, 22), (4, 228), (4, 66), (4, 67), (4, 68), (4, 69)] rfl (by decide +kernel)
set_option maxRecDepth 20000 in
theorem l_wsX10_leave_r2 : GoodIn lw_tbl wsX10_leave_r2 := good_l _ [(4, 70), (4, 218), (4, 219), (4, 220)] rfl (by decide +kernel)
set_option maxRecDepth 20000 in
theorem gw_X10_leave : GoodIn lw_tbl wsX10_leave := goodIn_app l_X10_leave_0 (goodIn_app (goodIn_app l_wsX10_leave_r1 l_wsX10_leave_r2) lx_10)
set_option maxRecDepth 20000 in
theorem lv_law_X10_leave : GoodIn lw_tbl ([.methodLink RL 46 yX10_leave, .instanceMethod yX10_leave, .selects RX10 yX10_leave yX10_leave, .initialized RX10] : List Cond) := good_l _ [(4, 221), (4, 222), (4, 223), (1, 11)] rfl (by decide +kernel)
theorem gL_law_X10_leave : GoodIn lw_tbl (wsV RL 46 RX10 yX10_leave wsX10_leave) := goodIn_app lv_law_X10_leave gw_X10_leave
set_option maxRecDepth 20000 in
theorem l_X10_join_0 : GoodIn lw_tbl ([.code yX10_join cX10_join 2 (some .boolean)] : List Cond) := good_l _ [(4, 232)] rfl (by decide +kernel)
set_option maxRecDepth 20000 in
theorem l_X10_join_1 : GoodIn lw_tbl ([.fieldLink RX10 120 "PieceSwarmModel" "thrown" "I", .fieldLink RX10 26 "PieceSwarmModel" "isHere" "[Z", .methodLink RX10 147 yX10_isPeer, .instanceMethod yX10_isPeer, .selects RX10 yX10_isPeer yX10_isPeer, .initialized RX10, .code yX10_isPeer cX10_isPeer 2 (some .boolean), .fieldLink RX10 136 "PieceSwarmModel" "peers" "I", .methodLink RX10 132 yX10_in, .static yX10_in, .code yX10_in cX10_in 3 (some .boolean)] : List Cond) := good_l _ [(4, 29), (4, 42), (4, 206), (4, 208), (0, 20), (1, 11), (4, 209), (4, 33), (4, 170), (4, 171), (4, 172)] rfl (by decide +kernel)
set_option maxRecDepth 20000 in
theorem gw_X10_join : GoodIn lw_tbl wsX10_join := goodIn_app l_X10_join_0 (goodIn_app l_X10_join_1 lx_10)
set_option maxRecDepth 20000 in
theorem lv_law_X10_join : GoodIn lw_tbl ([.methodLink RL 50 yX10_join, .instanceMethod yX10_join, .selects RX10 yX10_join yX10_join, .initialized RX10] : List Cond) := good_l _ [(4, 229), (4, 230), (4, 231), (1, 11)] rfl (by decide +kernel)
theorem gL_law_X10_join : GoodIn lw_tbl (wsV RL 50 RX10 yX10_join wsX10_join) := goodIn_app lv_law_X10_join gw_X10_join
set_option maxRecDepth 20000 in
theorem l_X10_tick_0 : GoodIn lw_tbl ([.code yX10_tick cX10_tick 4 (some .int)] : List Cond) := good_l _ [(4, 236)] rfl (by decide +kernel)
set_option maxRecDepth 20000 in
theorem l_wsX10_tick_r1 : GoodIn lw_tbl wsX10_tick_r1 := good_l _ [(4, 29), (4, 35), (4, 170), (4, 171), (1, 11), (4, 172), (4, 237), (4, 239), (0, 23), (5, 0), (4, 34), (4, 33), (4, 42), (4, 72), (4, 40), (4, 73), (4, 41), (5, 1), (5, 3), (0, 24), (5, 4), (4, 63), (4, 69), (4, 70)] rfl (by decide +kernel)
set_option maxRecDepth 20000 in
theorem l_wsX10_tick_r2 : GoodIn lw_tbl wsX10_tick_r2 := good_l _ [(5, 5), (5, 7), (0, 25), (5, 8), (4, 64), (4, 65), (4, 66), (4, 67), (4, 44), (4, 60), (4, 46), (4, 38), (4, 51), (4, 52), (4, 68), (4, 53), (4, 31), (4, 194), (4, 49), (4, 48), (4, 218), (4, 219), (4, 220), (5, 9)] rfl (by decide +kernel)
set_option maxRecDepth 20000 in
theorem l_wsX10_tick_r3 : GoodIn lw_tbl wsX10_tick_r3 := good_l _ [(5, 11), (0, 26), (5, 12), (4, 50), (4, 199), (4, 200), (4, 201), (5, 13), (5, 15), (0, 27), (5, 16), (4, 190), (4, 192), (0, 19), (4, 193), (4, 181), (4, 183), (0, 18), (4, 184), (4, 32), (4, 185), (5, 17), (5, 19), (0, 28)] rfl (by decide +kernel)
set_option maxRecDepth 20000 in
theorem l_wsX10_tick_r4 : GoodIn lw_tbl wsX10_tick_r4 := good_l _ [(5, 20), (4, 47), (4, 37), (4, 57), (4, 56), (5, 21), (5, 23), (0, 29), (5, 24), (5, 25), (5, 27), (0, 30), (5, 28), (4, 30), (5, 29), (5, 31), (0, 31), (5, 32), (4, 225), (4, 227), (0, 22), (4, 228), (5, 33), (5, 35)] rfl (by decide +kernel)
set_option maxRecDepth 20000 in
theorem l_wsX10_tick_r5 : GoodIn lw_tbl wsX10_tick_r5 := good_l _ [(0, 32), (5, 36), (4, 71), (4, 55), (4, 39), (4, 61), (4, 62), (4, 59), (5, 37), (5, 39), (0, 33), (5, 40), (5, 41), (5, 43), (0, 34), (5, 44), (4, 54), (5, 45), (5, 47), (0, 35), (5, 48), (5, 49), (5, 51), (0, 36)] rfl (by decide +kernel)
set_option maxRecDepth 20000 in
theorem l_wsX10_tick_r6 : GoodIn lw_tbl wsX10_tick_r6 := good_l _ [(5, 52), (5, 53), (5, 55), (0, 37), (5, 56), (5, 57), (5, 59), (0, 38), (5, 60), (5, 61), (5, 63), (0, 39), (5, 64), (5, 65), (5, 67), (0, 40), (5, 68), (5, 69), (5, 71), (0, 41), (5, 72), (5, 73), (5, 75), (0, 42)] rfl (by decide +kernel)
set_option maxRecDepth 20000 in
theorem l_wsX10_tick_r7 : GoodIn lw_tbl wsX10_tick_r7 := good_l _ [(5, 76), (5, 77), (5, 79), (0, 43), (5, 80), (5, 81), (5, 83), (0, 44), (5, 84), (5, 85), (5, 87), (0, 45), (5, 88), (5, 89), (5, 91), (0, 46), (5, 92), (4, 45), (4, 58), (4, 43), (5, 93), (5, 95), (0, 47), (5, 96)] rfl (by decide +kernel)
set_option maxRecDepth 20000 in
theorem gw_X10_tick : GoodIn lw_tbl wsX10_tick := goodIn_app l_X10_tick_0 (goodIn_app (goodIn_app l_wsX10_tick_r1 (goodIn_app l_wsX10_tick_r2 (goodIn_app l_wsX10_tick_r3 (goodIn_app l_wsX10_tick_r4 (goodIn_app l_wsX10_tick_r5 (goodIn_app l_wsX10_tick_r6 l_wsX10_tick_r7)))))) lx_10)
set_option maxRecDepth 20000 in
theorem lv_law_X10_tick : GoodIn lw_tbl ([.methodLink RL 54 yX10_tick, .instanceMethod yX10_tick, .selects RX10 yX10_tick yX10_tick, .initialized RX10] : List Cond) := good_l _ [(4, 233), (4, 234), (4, 235), (1, 11)] rfl (by decide +kernel)
theorem gL_law_X10_tick : GoodIn lw_tbl (wsV RL 54 RX10 yX10_tick wsX10_tick) := goodIn_app lv_law_X10_tick gw_X10_tick
set_option maxRecDepth 20000 in
theorem l_X10_about_0 : GoodIn lw_tbl ([.code yX10_about cX10_about 3 (some .int)] : List Cond) := good_l _ [(5, 100)] rfl (by decide +kernel)
set_option maxRecDepth 20000 in
theorem l_wsX10_about_r1 : GoodIn lw_tbl wsX10_about_r1 := good_l _ [(4, 29), (4, 39), (4, 42), (4, 44), (4, 45), (4, 46), (4, 47), (4, 50), (4, 30), (4, 48), (4, 56), (4, 33), (4, 54), (4, 206), (4, 208), (0, 20), (1, 11), (4, 209), (4, 170), (4, 171), (4, 172), (5, 29), (5, 31), (0, 31)] rfl (by decide +kernel)
set_option maxRecDepth 20000 in
theorem l_wsX10_about_r2 : GoodIn lw_tbl wsX10_about_r2 := good_l _ [(5, 32), (4, 49), (5, 101), (5, 103), (0, 48), (5, 104), (5, 13), (5, 15), (0, 27), (5, 16), (4, 31), (4, 51), (4, 199), (4, 200), (4, 201), (5, 105), (5, 107), (0, 49), (5, 108), (5, 109), (5, 111), (0, 50), (5, 112), (4, 63)] rfl (by decide +kernel)
set_option maxRecDepth 20000 in
theorem l_wsX10_about_r3 : GoodIn lw_tbl wsX10_about_r3 := good_l _ [(4, 64), (5, 113), (5, 115), (0, 51), (5, 116), (5, 117), (5, 119), (0, 52), (5, 120), (4, 55), (4, 218), (4, 219), (4, 220), (5, 41), (5, 43), (0, 34), (5, 44)] rfl (by decide +kernel)
set_option maxRecDepth 20000 in
theorem gw_X10_about : GoodIn lw_tbl wsX10_about := goodIn_app l_X10_about_0 (goodIn_app (goodIn_app l_wsX10_about_r1 (goodIn_app l_wsX10_about_r2 l_wsX10_about_r3)) lx_10)
set_option maxRecDepth 20000 in
theorem lv_law_X10_about : GoodIn lw_tbl ([.methodLink RL 58 yX10_about, .instanceMethod yX10_about, .selects RX10 yX10_about yX10_about, .initialized RX10] : List Cond) := good_l _ [(5, 97), (5, 98), (5, 99), (1, 11)] rfl (by decide +kernel)
theorem gL_law_X10_about : GoodIn lw_tbl (wsV RL 58 RX10 yX10_about wsX10_about) := goodIn_app lv_law_X10_about gw_X10_about
set_option maxRecDepth 20000 in
theorem l_X10_held_0 : GoodIn lw_tbl ([.code yX10_held cX10_held 3 (some .int)] : List Cond) := good_l _ [(5, 124)] rfl (by decide +kernel)
set_option maxRecDepth 20000 in
theorem l_X10_held_1 : GoodIn lw_tbl ([.fieldLink RX10 120 "PieceSwarmModel" "thrown" "I", .methodLink RX10 147 yX10_isPeer, .instanceMethod yX10_isPeer, .selects RX10 yX10_isPeer yX10_isPeer, .initialized RX10, .code yX10_isPeer cX10_isPeer 2 (some .boolean), .fieldLink RX10 136 "PieceSwarmModel" "peers" "I", .methodLink RX10 132 yX10_in, .static yX10_in, .code yX10_in cX10_in 3 (some .boolean), .methodLink RX10 139 yX10_isBlock, .instanceMethod yX10_isBlock, .selects RX10 yX10_isBlock yX10_isBlock, .code yX10_isBlock cX10_isBlock 3 (some .boolean), .fieldLink RX10 7 "PieceSwarmModel" "pieces" "I", .fieldLink RX10 13 "PieceSwarmModel" "blocks" "I", .methodLink RX10 193 yX10_heldMany, .instanceMethod yX10_heldMany, .selects RX10 yX10_heldMany yX10_heldMany, .code yX10_heldMany cX10_heldMany 5 (some .int), .fieldLink RX10 54 "PieceSwarmModel" "holds" "[Z", .methodLink RX10 163 yX10_cell, .static yX10_cell, .code yX10_cell cX10_cell 3 (some .int)] : List Cond) := good_l _ [(4, 29), (4, 206), (4, 208), (0, 20), (1, 11), (4, 209), (4, 33), (4, 170), (4, 171), (4, 172), (4, 177), (4, 179), (0, 17), (4, 180), (4, 30), (4, 31), (5, 13), (5, 15), (0, 27), (5, 16), (4, 51), (4, 199), (4, 200), (4, 201)] rfl (by decide +kernel)
set_option maxRecDepth 20000 in
theorem gw_X10_held : GoodIn lw_tbl wsX10_held := goodIn_app l_X10_held_0 (goodIn_app l_X10_held_1 lx_10)
set_option maxRecDepth 20000 in
theorem lv_law_X10_held : GoodIn lw_tbl ([.methodLink RL 62 yX10_held, .instanceMethod yX10_held, .selects RX10 yX10_held yX10_held, .initialized RX10] : List Cond) := good_l _ [(5, 121), (5, 122), (5, 123), (1, 11)] rfl (by decide +kernel)
theorem gL_law_X10_held : GoodIn lw_tbl (wsV RL 62 RX10 yX10_held wsX10_held) := goodIn_app lv_law_X10_held gw_X10_held
set_option maxRecDepth 20000 in
theorem l_X10_from_0 : GoodIn lw_tbl ([.code yX10_from cX10_from 4 (some .int)] : List Cond) := good_l _ [(5, 128)] rfl (by decide +kernel)
set_option maxRecDepth 20000 in
theorem l_X10_from_1 : GoodIn lw_tbl ([.fieldLink RX10 120 "PieceSwarmModel" "thrown" "I", .fieldLink RX10 54 "PieceSwarmModel" "holds" "[Z", .fieldLink RX10 60 "PieceSwarmModel" "from" "[I", .methodLink RX10 147 yX10_isPeer, .instanceMethod yX10_isPeer, .selects RX10 yX10_isPeer yX10_isPeer, .initialized RX10, .code yX10_isPeer cX10_isPeer 2 (some .boolean), .fieldLink RX10 136 "PieceSwarmModel" "peers" "I", .methodLink RX10 132 yX10_in, .static yX10_in, .code yX10_in cX10_in 3 (some .boolean), .methodLink RX10 139 yX10_isBlock, .instanceMethod yX10_isBlock, .selects RX10 yX10_isBlock yX10_isBlock, .code yX10_isBlock cX10_isBlock 3 (some .boolean), .fieldLink RX10 7 "PieceSwarmModel" "pieces" "I", .fieldLink RX10 13 "PieceSwarmModel" "blocks" "I", .methodLink RX10 163 yX10_cell, .static yX10_cell, .code yX10_cell cX10_cell 3 (some .int)] : List Cond) := good_l _ [(4, 29), (4, 51), (4, 53), (4, 206), (4, 208), (0, 20), (1, 11), (4, 209), (4, 33), (4, 170), (4, 171), (4, 172), (4, 177), (4, 179), (0, 17), (4, 180), (4, 30), (4, 31), (4, 199), (4, 200), (4, 201)] rfl (by decide +kernel)
set_option maxRecDepth 20000 in
theorem gw_X10_from : GoodIn lw_tbl wsX10_from := goodIn_app l_X10_from_0 (goodIn_app l_X10_from_1 lx_10)
set_option maxRecDepth 20000 in
theorem lv_law_X10_from : GoodIn lw_tbl ([.methodLink RL 66 yX10_from, .instanceMethod yX10_from, .selects RX10 yX10_from yX10_from, .initialized RX10] : List Cond) := good_l _ [(5, 125), (5, 126), (5, 127), (1, 11)] rfl (by decide +kernel)
theorem gL_law_X10_from : GoodIn lw_tbl (wsV RL 66 RX10 yX10_from wsX10_from) := goodIn_app lv_law_X10_from gw_X10_from
set_option maxRecDepth 20000 in
theorem l_X10_got_0 : GoodIn lw_tbl ([.code yX10_got cX10_got 4 (some .int)] : List Cond) := good_l _ [(5, 132)] rfl (by decide +kernel)
set_option maxRecDepth 20000 in
theorem l_X10_got_1 : GoodIn lw_tbl ([.fieldLink RX10 120 "PieceSwarmModel" "thrown" "I", .fieldLink RX10 54 "PieceSwarmModel" "holds" "[Z", .fieldLink RX10 57 "PieceSwarmModel" "got" "[I", .methodLink RX10 147 yX10_isPeer, .instanceMethod yX10_isPeer, .selects RX10 yX10_isPeer yX10_isPeer, .initialized RX10, .code yX10_isPeer cX10_isPeer 2 (some .boolean), .fieldLink RX10 136 "PieceSwarmModel" "peers" "I", .methodLink RX10 132 yX10_in, .static yX10_in, .code yX10_in cX10_in 3 (some .boolean), .methodLink RX10 139 yX10_isBlock, .instanceMethod yX10_isBlock, .selects RX10 yX10_isBlock yX10_isBlock, .code yX10_isBlock cX10_isBlock 3 (some .boolean), .fieldLink RX10 7 "PieceSwarmModel" "pieces" "I", .fieldLink RX10 13 "PieceSwarmModel" "blocks" "I", .methodLink RX10 163 yX10_cell, .static yX10_cell, .code yX10_cell cX10_cell 3 (some .int)] : List Cond) := good_l _ [(4, 29), (4, 51), (4, 52), (4, 206), (4, 208), (0, 20), (1, 11), (4, 209), (4, 33), (4, 170), (4, 171), (4, 172), (4, 177), (4, 179), (0, 17), (4, 180), (4, 30), (4, 31), (4, 199), (4, 200), (4, 201)] rfl (by decide +kernel)
set_option maxRecDepth 20000 in
theorem gw_X10_got : GoodIn lw_tbl wsX10_got := goodIn_app l_X10_got_0 (goodIn_app l_X10_got_1 lx_10)
set_option maxRecDepth 20000 in
theorem lv_law_X10_got : GoodIn lw_tbl ([.methodLink RL 70 yX10_got, .instanceMethod yX10_got, .selects RX10 yX10_got yX10_got, .initialized RX10] : List Cond) := good_l _ [(5, 129), (5, 130), (5, 131), (1, 11)] rfl (by decide +kernel)
theorem gL_law_X10_got : GoodIn lw_tbl (wsV RL 70 RX10 yX10_got wsX10_got) := goodIn_app lv_law_X10_got gw_X10_got
set_option maxRecDepth 20000 in
theorem l_X10_rare_0 : GoodIn lw_tbl ([.code yX10_rare cX10_rare 3 (some .int)] : List Cond) := good_l _ [(5, 136)] rfl (by decide +kernel)
set_option maxRecDepth 20000 in
theorem l_wsX10_rare_r1 : GoodIn lw_tbl wsX10_rare_r1 := good_l _ [(4, 29), (4, 206), (4, 208), (0, 20), (1, 11), (4, 209), (4, 33), (4, 170), (4, 171), (4, 172), (4, 177), (4, 179), (0, 17), (4, 180), (4, 30), (4, 31), (5, 85), (5, 87), (0, 45), (5, 88), (5, 41), (5, 43), (0, 34), (5, 44)] rfl (by decide +kernel)
set_option maxRecDepth 20000 in
theorem l_wsX10_rare_r2 : GoodIn lw_tbl wsX10_rare_r2 := good_l _ [(4, 54), (4, 42), (4, 56), (4, 218), (4, 219), (4, 220), (5, 45), (5, 47), (0, 35), (5, 48), (4, 49), (4, 39)] rfl (by decide +kernel)
set_option maxRecDepth 20000 in
theorem gw_X10_rare : GoodIn lw_tbl wsX10_rare := goodIn_app l_X10_rare_0 (goodIn_app (goodIn_app l_wsX10_rare_r1 l_wsX10_rare_r2) lx_10)
set_option maxRecDepth 20000 in
theorem lv_law_X10_rare : GoodIn lw_tbl ([.methodLink RL 74 yX10_rare, .instanceMethod yX10_rare, .selects RX10 yX10_rare yX10_rare, .initialized RX10] : List Cond) := good_l _ [(5, 133), (5, 134), (5, 135), (1, 11)] rfl (by decide +kernel)
theorem gL_law_X10_rare : GoodIn lw_tbl (wsV RL 74 RX10 yX10_rare wsX10_rare) := goodIn_app lv_law_X10_rare gw_X10_rare
set_option maxRecDepth 20000 in
theorem l_X10_pair_0 : GoodIn lw_tbl ([.code yX10_pair cX10_pair 4 (some .int)] : List Cond) := good_l _ [(5, 140)] rfl (by decide +kernel)
set_option maxRecDepth 20000 in
theorem l_wsX10_pair_r1 : GoodIn lw_tbl wsX10_pair_r1 := good_l _ [(4, 29), (4, 54), (4, 58), (4, 57), (4, 56), (4, 61), (4, 214), (4, 216), (0, 21), (1, 11), (4, 217), (4, 206), (4, 208), (0, 20), (4, 209), (4, 33), (4, 170), (4, 171), (4, 172), (4, 218), (4, 219), (4, 220), (5, 41), (5, 43)] rfl (by decide +kernel)
set_option maxRecDepth 20000 in
theorem l_wsX10_pair_r2 : GoodIn lw_tbl wsX10_pair_r2 := good_l _ [(0, 34), (5, 44), (4, 42), (5, 37), (5, 39), (0, 33), (5, 40), (4, 30), (4, 49), (5, 45), (5, 47), (0, 35), (5, 48), (4, 39), (5, 117), (5, 119), (0, 52), (5, 120), (4, 55), (5, 49), (5, 51), (0, 36), (5, 52), (4, 59)] rfl (by decide +kernel)
set_option maxRecDepth 20000 in
theorem l_wsX10_pair_r3 : GoodIn lw_tbl wsX10_pair_r3 := good_l _ [(4, 60), (5, 25), (5, 27), (0, 30), (5, 28), (5, 29), (5, 31), (0, 31), (5, 32)] rfl (by decide +kernel)
set_option maxRecDepth 20000 in
theorem gw_X10_pair : GoodIn lw_tbl wsX10_pair := goodIn_app l_X10_pair_0 (goodIn_app (goodIn_app l_wsX10_pair_r1 (goodIn_app l_wsX10_pair_r2 l_wsX10_pair_r3)) lx_10)
set_option maxRecDepth 20000 in
theorem lv_law_X10_pair : GoodIn lw_tbl ([.methodLink RL 78 yX10_pair, .instanceMethod yX10_pair, .selects RX10 yX10_pair yX10_pair, .initialized RX10] : List Cond) := good_l _ [(5, 137), (5, 138), (5, 139), (1, 11)] rfl (by decide +kernel)
theorem gL_law_X10_pair : GoodIn lw_tbl (wsV RL 78 RX10 yX10_pair wsX10_pair) := goodIn_app lv_law_X10_pair gw_X10_pair
set_option maxRecDepth 20000 in
theorem l_X10_alone_0 : GoodIn lw_tbl ([.code yX10_alone cX10_alone 4 (some .int)] : List Cond) := good_l _ [(5, 144)] rfl (by decide +kernel)
set_option maxRecDepth 20000 in
theorem l_X10_alone_1 : GoodIn lw_tbl ([.fieldLink RX10 120 "PieceSwarmModel" "thrown" "I", .fieldLink RX10 7 "PieceSwarmModel" "pieces" "I", .fieldLink RX10 48 "PieceSwarmModel" "has" "[Z", .methodLink RX10 147 yX10_isPeer, .instanceMethod yX10_isPeer, .selects RX10 yX10_isPeer yX10_isPeer, .initialized RX10, .code yX10_isPeer cX10_isPeer 2 (some .boolean), .fieldLink RX10 136 "PieceSwarmModel" "peers" "I", .methodLink RX10 132 yX10_in, .static yX10_in, .code yX10_in cX10_in 3 (some .boolean), .methodLink RX10 280 yX10_owners, .instanceMethod yX10_owners, .selects RX10 yX10_owners yX10_owners, .code yX10_owners cX10_owners 5 (some .int), .fieldLink RX10 26 "PieceSwarmModel" "isHere" "[Z"] : List Cond) := good_l _ [(4, 29), (4, 30), (4, 49), (4, 206), (4, 208), (0, 20), (1, 11), (4, 209), (4, 33), (4, 170), (4, 171), (4, 172), (5, 145), (5, 147), (0, 53), (5, 148), (4, 42)] rfl (by decide +kernel)
set_option maxRecDepth 20000 in
theorem gw_X10_alone : GoodIn lw_tbl wsX10_alone := goodIn_app l_X10_alone_0 (goodIn_app l_X10_alone_1 lx_10)
set_option maxRecDepth 20000 in
theorem lv_law_X10_alone : GoodIn lw_tbl ([.methodLink RL 82 yX10_alone, .instanceMethod yX10_alone, .selects RX10 yX10_alone yX10_alone, .initialized RX10] : List Cond) := good_l _ [(5, 141), (5, 142), (5, 143), (1, 11)] rfl (by decide +kernel)
theorem gL_law_X10_alone : GoodIn lw_tbl (wsV RL 82 RX10 yX10_alone wsX10_alone) := goodIn_app lv_law_X10_alone gw_X10_alone
set_option maxRecDepth 20000 in
theorem l_X10_bound__0 : GoodIn lw_tbl ([.code yX10_bound_ cX10_bound_ 7 (some .int)] : List Cond) := good_l _ [(5, 152)] rfl (by decide +kernel)
set_option maxRecDepth 20000 in
theorem l_wsX10_bound__r1 : GoodIn lw_tbl wsX10_bound__r1 := good_l _ [(4, 29), (4, 42), (4, 30), (4, 31), (4, 40), (4, 33), (4, 41), (4, 206), (4, 208), (0, 20), (1, 11), (4, 209), (4, 170), (4, 171), (4, 172), (5, 25), (5, 27), (0, 30), (5, 28), (5, 29), (5, 31), (0, 31), (5, 32), (4, 49)] rfl (by decide +kernel)
set_option maxRecDepth 20000 in
theorem l_wsX10_bound__r2 : GoodIn lw_tbl wsX10_bound__r2 := good_l _ [(5, 153), (5, 154), (5, 155), (5, 101), (5, 103), (0, 48), (5, 104), (5, 13), (5, 15), (0, 27), (5, 16), (4, 51), (4, 199), (4, 200), (4, 201), (5, 109), (5, 111), (0, 50), (5, 112), (4, 63), (4, 64)] rfl (by decide +kernel)
set_option maxRecDepth 20000 in
theorem gw_X10_bound_ : GoodIn lw_tbl wsX10_bound_ := goodIn_app l_X10_bound__0 (goodIn_app (goodIn_app l_wsX10_bound__r1 l_wsX10_bound__r2) lx_10)
set_option maxRecDepth 20000 in
theorem lv_law_X10_bound_ : GoodIn lw_tbl ([.methodLink RL 86 yX10_bound_, .instanceMethod yX10_bound_, .selects RX10 yX10_bound_ yX10_bound_, .initialized RX10] : List Cond) := good_l _ [(5, 149), (5, 150), (5, 151), (1, 11)] rfl (by decide +kernel)
theorem gL_law_X10_bound_ : GoodIn lw_tbl (wsV RL 86 RX10 yX10_bound_ wsX10_bound_) := goodIn_app lv_law_X10_bound_ gw_X10_bound_
set_option maxRecDepth 20000 in
theorem l_X10_count__0 : GoodIn lw_tbl ([.code yX10_count_ cX10_count_ 4 (some .int)] : List Cond) := good_l _ [(5, 159)] rfl (by decide +kernel)
set_option maxRecDepth 20000 in
theorem l_wsX10_count__r1 : GoodIn lw_tbl wsX10_count__r1 := good_l _ [(4, 29), (4, 34), (4, 33), (4, 42), (4, 30), (4, 31), (4, 35), (4, 63), (4, 36), (4, 37), (4, 38), (5, 105), (5, 107), (0, 49), (1, 11), (5, 108), (5, 25), (5, 27), (0, 30), (5, 28), (5, 29), (5, 31), (0, 31), (5, 32)] rfl (by decide +kernel)
set_option maxRecDepth 20000 in
theorem l_wsX10_count__r2 : GoodIn lw_tbl wsX10_count__r2 := good_l _ [(4, 49)] rfl (by decide +kernel)
set_option maxRecDepth 20000 in
theorem gw_X10_count_ : GoodIn lw_tbl wsX10_count_ := goodIn_app l_X10_count__0 (goodIn_app (goodIn_app l_wsX10_count__r1 l_wsX10_count__r2) lx_10)
set_option maxRecDepth 20000 in
theorem lv_law_X10_count_ : GoodIn lw_tbl ([.methodLink RL 90 yX10_count_, .instanceMethod yX10_count_, .selects RX10 yX10_count_ yX10_count_, .initialized RX10] : List Cond) := good_l _ [(5, 156), (5, 157), (5, 158), (1, 11)] rfl (by decide +kernel)
theorem gL_law_X10_count_ : GoodIn lw_tbl (wsV RL 90 RX10 yX10_count_ wsX10_count_) := goodIn_app lv_law_X10_count_ gw_X10_count_
